/-! ===== what stands at the loop's head, between class and reference: lines, rows noted (printed by wip/v2/mk85.py) ===== -/
def lx_L0 : List (Nat × Int) := [(0, 10)]
def lx_L : List (Nat × Int) := [(35, 4), (542, 20)]
def lx_N : List (Nat × Int) := (List.range 6).flatMap fun (m : Nat) => [(34, (m : Int)), (170 + 62 * m, 1), (555, (m : Int))]
/-- places of which it speaks, but for the stones read -/
def lx_K1 : List (Nat × Int) := lx_L ++ lx_N
def lx_K : List (Nat × Int) := lx_L0 ++ lx_K1
def lx_RL (h : ax_H) : Prop := ∃ c : Int32, ab_rd h 35 4 = some (.int c) ∧ ab_rd h 542 20 = some (.int c) ∧ 0 ≤ c.toInt ∧ c.toInt ≤ 20
def lx_RN (h : ax_H) : Prop := nt_34 h ∧ ∃ c : Nat → Int32, nt_c true h c ∧ nt_c false h c
def lx_R (h : ax_H) : Prop := lx_RL h ∧ lx_RN h
theorem kpt_l {L L' : List (Nat × Int)} {h h' : ax_H} (k : kpt (L ++ L') h h') : kpt L h h' := fun q hq => k q (List.mem_append_left _ hq)
theorem kpt_r {L L' : List (Nat × Int)} {h h' : ax_H} (k : kpt (L ++ L') h h') : kpt L' h h' := fun q hq => k q (List.mem_append_right _ hq)
theorem lx_N_in {q : Nat × Int} (j : Nat) (hj : j < 6) (hq : q = (34, (j : Int)) ∨ q = (170 + 62 * j, 1) ∨ q = (555, (j : Int))) : q ∈ lx_N := by
  refine List.mem_flatMap.mpr ⟨j, List.mem_range.mpr hj, ?_⟩
  rcases hq with rfl | rfl | rfl
  · exact List.mem_cons_self
  · exact List.mem_cons_of_mem _ List.mem_cons_self
  · exact List.mem_cons_of_mem _ (List.mem_cons_of_mem _ List.mem_cons_self)
theorem lx_RL_k {h h' : ax_H} (k : kpt lx_L h h') (r : lx_RL h) : lx_RL h' := by
  obtain ⟨c, a1, a2, a3⟩ := r
  exact ⟨c, (k (35, 4) List.mem_cons_self).trans a1, (k (542, 20) (List.mem_cons_of_mem _ List.mem_cons_self)).trans a2, a3⟩
theorem nt_34_k {h h' : ax_H} (k : kpt lx_N h h') (r : nt_34 h) : nt_34 h' := fun j hj => (k (34, (j : Int)) (lx_N_in j hj (Or.inl rfl))).trans (r j hj)
theorem nt_c_k {B : Bool} {h h' : ax_H} {c : Nat → Int32} (k : ∀ j, j < 6 → ab_rd h' (nt_P B j).1 (nt_P B j).2 = ab_rd h (nt_P B j).1 (nt_P B j).2) (r : nt_c B h c) : nt_c B h' c := fun j hj => ⟨(k j hj).trans (r j hj).1, (r j hj).2⟩
theorem lx_RN_k {h h' : ax_H} (k : kpt lx_N h h') (r : lx_RN h) : lx_RN h' := by
  obtain ⟨r1, c, r2, r3⟩ := r
  exact ⟨nt_34_k k r1, c, nt_c_k (fun j hj => k (170 + 62 * j, 1) (lx_N_in j hj (Or.inr (Or.inl rfl)))) r2, nt_c_k (fun j hj => k (555, (j : Int)) (lx_N_in j hj (Or.inr (Or.inr rfl)))) r3⟩
theorem lx_R_k {h h' : ax_H} (k : kpt lx_K1 h h') (r : lx_R h) : lx_R h' := ⟨lx_RL_k (kpt_l k) r.1, lx_RN_k (kpt_r k) r.2⟩
theorem lx_0 {h h' : ax_H} (k : kpt lx_L0 h h') : ab_ri h' 0 10 = ab_ri h 0 10 := ab_ri_of (k (0, 10) List.mem_cons_self)
/-- what stands at the loop's head: cells as their kinds say; costs by the stones that were read; the relation -/
def lx_I (h : ax_H) (n cs ss : Nat) : Prop := ab_HT h n ∧ (cs : Int) ≤ 573 + ab_ri h 0 10 ∧ (ss : Int) ≤ 192706 + 41160 * ab_ri h 0 10 ∧ lx_R h
/-- a call of both, the class's first: one answer, and all stands again -/
def lx_B (l : Launch) (G : ax_T) (m1 m2 : ax_MI) (a1 a2 : List Value) (h : ax_H) (n cs ss : Nat) : Prop := ∃ (x : Int32) (h1 : ax_H) (n1 : Nat) (h2 : ax_H) (n2 : Nat), ab_M l G 40 m1 a1 h n (some (.int x), h1, n1) ∧ ab_M l G 40 m2 a2 h1 n1 (some (.int x), h2, n2) ∧ ab_HT h1 n1 ∧ lx_I h2 n2 cs ss
section LR
variable {l : Launch} {G : ax_T} {h h1 h2 : ax_H} {n n1 cs ss : Nat}
theorem lx_I_of {n2 : Nat} {M1 M2 : List (Nat × Int)} (hI : lx_I h n cs ss) (f1 : pb_f M1 n h h1) (t1 : ab_HT h1 n1) (f2 : pb_f M2 n1 h1 h2) (t2 : ab_HT h2 n2) (k1 : kp_md lx_L0 M1 = true) (k2 : kp_md lx_L0 M2 = true) (r : lx_R h2) : lx_I h2 n2 cs ss := by
  have e : ab_ri h2 0 10 = ab_ri h 0 10 := (lx_0 (kp_of k2 f2 t1.1)).trans (lx_0 (kp_of k1 f1 hI.1.1))
  exact ⟨t2, by rw [e]; exact hI.2.1, by rw [e]; exact hI.2.2.1, r⟩
/-- two calls that answer alike and change nothing -/
theorem lx_BC {m1 m2 : ax_MI} {a1 a2 : List Value} {x : Int32} (hI : lx_I h n cs ss) (e1 : ec_S l G m1 a1 h n [] x) (e2 : ∀ (h1 : ax_H) (n1 : Nat), ab_HT h1 n1 → pb_f [] n h h1 → ec_S l G m2 a2 h1 n1 [] x) : lx_B l G m1 m2 a1 a2 h n cs ss := by
  obtain ⟨h1, n1, m1, t1, f1⟩ := e1
  obtain ⟨h2, n2, m2, t2, f2⟩ := e2 h1 n1 t1 f1
  exact ⟨x, h1, n1, h2, n2, m1, m2, t1, lx_I_of hI f1 t1 f2 t2 (by decide +kernel) (by decide +kernel) (lx_R_k (kp_of (by decide +kernel) f2 t1.1) (lx_R_k (kp_of (by decide +kernel) f1 hI.1.1) hI.2.2.2))⟩
theorem lx_tr (H : ab_Hand l G) (hI : lx_I h n cs ss) : lx_B l G mt_X10_tear mt_X11_tear [.ref 0] [.ref 542] h n cs ss := by
  have hI' := hI
  obtain ⟨hT, -, -, ⟨c, a1, a2, l0, l20⟩, rN⟩ := hI'
  obtain ⟨h1, n1, m1, t1, e1, f1⟩ := tr_X10 H hT a1 l0 l20
  obtain ⟨h2, n2, m2, t2, e2, f2⟩ := tr_X11 H t1 ((f1 542 (by have := hT.1; omega) 20 (by decide) (by decide +kernel)).trans a2) l0 l20
  exact ⟨c, h1, n1, h2, n2, m1, m2, t1, lx_I_of hI f1 t1 f2 t2 (by decide +kernel) (by decide +kernel) ⟨⟨Int32.ofInt 0, (f2 35 (by have := t1.1; omega) 4 (by decide) (by decide +kernel)).trans e1, e2, by decide, by decide⟩, lx_RN_k (kp_of (by decide +kernel) f2 t1.1) (lx_RN_k (kp_of (by decide +kernel) f1 hT.1) rN)⟩⟩
theorem ln_C_le (a t : Int32) {c : Int32} (l0 : 0 ≤ c.toInt) (l20 : c.toInt ≤ 20) : 0 ≤ (ln_C a t c).toInt ∧ (ln_C a t c).toInt ≤ 20 := by
  unfold ln_C
  split
  · split
    · exact ⟨l0, l20⟩
    · rw [Int32.toInt_ofInt_of_le (by omega) (by omega)]
      omega
  · exact ⟨l0, l20⟩
theorem lx_ln (H : ab_Hand l G) (hI : lx_I h n cs ss) (a t : Int32) : lx_B l G mt_X10_line mt_X11_line [.ref 0, .int a, .int t] [.ref 542, .int a, .int t] h n cs ss := by
  have hI' := hI
  obtain ⟨hT, -, -, ⟨c, a1, a2, l0, l20⟩, rN⟩ := hI'
  obtain ⟨h1, n1, m1, t1, e1, f1⟩ := ln_X10 H hT a t a1 l0 l20
  obtain ⟨h2, n2, m2, t2, e2, f2⟩ := ln_X11 H t1 a t ((f1 542 (by have := hT.1; omega) 20 (by decide) (by decide +kernel)).trans a2) l0 l20
  exact ⟨_, h1, n1, h2, n2, m1, m2, t1, lx_I_of hI f1 t1 f2 t2 (by decide +kernel) (by decide +kernel) ⟨⟨ln_C a t c, (f2 35 (by have := t1.1; omega) 4 (by decide) (by decide +kernel)).trans e1, e2, ln_C_le a t l0 l20⟩, lx_RN_k (kp_of (by decide +kernel) f2 t1.1) (lx_RN_k (kp_of (by decide +kernel) f1 hT.1) rN)⟩⟩
/-- places of the reference alone, of the class alone, of the masons' cells -/
def lx_N1 : List (Nat × Int) := (List.range 6).map fun (m : Nat) => (555, (m : Int))
def lx_N0 : List (Nat × Int) := (List.range 6).map fun (m : Nat) => (170 + 62 * m, 1)
def lx_N4 : List (Nat × Int) := (List.range 6).map fun (m : Nat) => (34, (m : Int))
theorem kpt_m {h h' : ax_H} {f : Nat → Nat × Int} (k : kpt ((List.range 6).map f) h h') {j : Nat} (hj : j < 6) : ab_rd h' (f j).1 (f j).2 = ab_rd h (f j).1 (f j).2 := k (f j) (List.mem_map.mpr ⟨j, List.mem_range.mpr hj, rfl⟩)
theorem lx_nt_0 (H : ab_Hand l G) (hI : lx_I h n cs ss) (r : Int32) (hr0 : 0 ≤ r.toInt) (hr1 : r.toInt ≤ 11) : lx_B l G mt_X10_note mt_X11_note [.ref 0, .int (Int32.ofInt 0), .int r] [.ref 542, .int (Int32.ofInt 0), .int r] h n cs ss := by
  have hI' := hI
  obtain ⟨hT, -, -, rL, r34, c, c10, c11⟩ := hI'
  by_cases hf : (c 0).toInt = 30
  · have e30 : c 0 = Int32.ofInt 30 := Int32.toInt_inj.mp (by rw [hf]; rfl)
    have q10 := (c10 0 (by decide)).1
    have q11 := (c11 0 (by decide)).1
    rw [e30] at q10 q11
    refine lx_BC hI (nf_X10_0 H hT r34 r hr0 hr1 q10) (fun h1 n1 t1 f1 => nf_X11_0 H t1 r hr0 hr1 ?_)
    exact (f1 555 (by have := hT.1; omega) 0 (by decide) (by decide +kernel)).trans q11
  · have h29 : (c 0).toInt ≤ 29 := by have := (c10 0 (by decide)).2.2; omega
    obtain ⟨h1, n1, m1, t1, e1, f1⟩ := nt_X10_0 H hT r34 r hr0 hr1 c10 h29
    have k1 : kpt lx_N1 h h1 := kp_of (by decide +kernel) f1 hT.1
    have k4 : kpt lx_N4 h h1 := kp_of (by decide +kernel) f1 hT.1
    obtain ⟨h2, n2, m2, t2, e2, f2⟩ := nt_X11_0 H t1 r hr0 hr1 (nt_c_k (B := false) (fun j hj => kpt_m k1 hj) c11) h29
    have k0 : kpt lx_N0 h1 h2 := kp_of (by decide +kernel) f2 t1.1
    have k5 : kpt lx_N4 h1 h2 := kp_of (by decide +kernel) f2 t1.1
    exact ⟨_, h1, n1, h2, n2, m1, m2, t1, lx_I_of hI f1 t1 f2 t2 (by decide +kernel) (by decide +kernel) ⟨lx_RL_k (kp_of (by decide +kernel) f2 t1.1) (lx_RL_k (kp_of (by decide +kernel) f1 hT.1) rL), fun j hj => (kpt_m k5 hj).trans ((kpt_m k4 hj).trans (r34 j hj)), _, nt_c_k (B := true) (fun j hj => kpt_m k0 hj) e1, e2⟩⟩
theorem lx_nt_1 (H : ab_Hand l G) (hI : lx_I h n cs ss) (r : Int32) (hr0 : 0 ≤ r.toInt) (hr1 : r.toInt ≤ 11) : lx_B l G mt_X10_note mt_X11_note [.ref 0, .int (Int32.ofInt 1), .int r] [.ref 542, .int (Int32.ofInt 1), .int r] h n cs ss := by
  have hI' := hI
  obtain ⟨hT, -, -, rL, r34, c, c10, c11⟩ := hI'
  by_cases hf : (c 1).toInt = 30
  · have e30 : c 1 = Int32.ofInt 30 := Int32.toInt_inj.mp (by rw [hf]; rfl)
    have q10 := (c10 1 (by decide)).1
    have q11 := (c11 1 (by decide)).1
    rw [e30] at q10 q11
    refine lx_BC hI (nf_X10_1 H hT r34 r hr0 hr1 q10) (fun h1 n1 t1 f1 => nf_X11_1 H t1 r hr0 hr1 ?_)
    exact (f1 555 (by have := hT.1; omega) 1 (by decide) (by decide +kernel)).trans q11
  · have h29 : (c 1).toInt ≤ 29 := by have := (c10 1 (by decide)).2.2; omega
    obtain ⟨h1, n1, m1, t1, e1, f1⟩ := nt_X10_1 H hT r34 r hr0 hr1 c10 h29
    have k1 : kpt lx_N1 h h1 := kp_of (by decide +kernel) f1 hT.1
    have k4 : kpt lx_N4 h h1 := kp_of (by decide +kernel) f1 hT.1
    obtain ⟨h2, n2, m2, t2, e2, f2⟩ := nt_X11_1 H t1 r hr0 hr1 (nt_c_k (B := false) (fun j hj => kpt_m k1 hj) c11) h29
    have k0 : kpt lx_N0 h1 h2 := kp_of (by decide +kernel) f2 t1.1
    have k5 : kpt lx_N4 h1 h2 := kp_of (by decide +kernel) f2 t1.1
    exact ⟨_, h1, n1, h2, n2, m1, m2, t1, lx_I_of hI f1 t1 f2 t2 (by decide +kernel) (by decide +kernel) ⟨lx_RL_k (kp_of (by decide +kernel) f2 t1.1) (lx_RL_k (kp_of (by decide +kernel) f1 hT.1) rL), fun j hj => (kpt_m k5 hj).trans ((kpt_m k4 hj).trans (r34 j hj)), _, nt_c_k (B := true) (fun j hj => kpt_m k0 hj) e1, e2⟩⟩
theorem lx_nt_2 (H : ab_Hand l G) (hI : lx_I h n cs ss) (r : Int32) (hr0 : 0 ≤ r.toInt) (hr1 : r.toInt ≤ 11) : lx_B l G mt_X10_note mt_X11_note [.ref 0, .int (Int32.ofInt 2), .int r] [.ref 542, .int (Int32.ofInt 2), .int r] h n cs ss := by
  have hI' := hI
  obtain ⟨hT, -, -, rL, r34, c, c10, c11⟩ := hI'
  by_cases hf : (c 2).toInt = 30
  · have e30 : c 2 = Int32.ofInt 30 := Int32.toInt_inj.mp (by rw [hf]; rfl)
    have q10 := (c10 2 (by decide)).1
    have q11 := (c11 2 (by decide)).1
    rw [e30] at q10 q11
    refine lx_BC hI (nf_X10_2 H hT r34 r hr0 hr1 q10) (fun h1 n1 t1 f1 => nf_X11_2 H t1 r hr0 hr1 ?_)
    exact (f1 555 (by have := hT.1; omega) 2 (by decide) (by decide +kernel)).trans q11
  · have h29 : (c 2).toInt ≤ 29 := by have := (c10 2 (by decide)).2.2; omega
    obtain ⟨h1, n1, m1, t1, e1, f1⟩ := nt_X10_2 H hT r34 r hr0 hr1 c10 h29
    have k1 : kpt lx_N1 h h1 := kp_of (by decide +kernel) f1 hT.1
    have k4 : kpt lx_N4 h h1 := kp_of (by decide +kernel) f1 hT.1
    obtain ⟨h2, n2, m2, t2, e2, f2⟩ := nt_X11_2 H t1 r hr0 hr1 (nt_c_k (B := false) (fun j hj => kpt_m k1 hj) c11) h29
    have k0 : kpt lx_N0 h1 h2 := kp_of (by decide +kernel) f2 t1.1
    have k5 : kpt lx_N4 h1 h2 := kp_of (by decide +kernel) f2 t1.1
    exact ⟨_, h1, n1, h2, n2, m1, m2, t1, lx_I_of hI f1 t1 f2 t2 (by decide +kernel) (by decide +kernel) ⟨lx_RL_k (kp_of (by decide +kernel) f2 t1.1) (lx_RL_k (kp_of (by decide +kernel) f1 hT.1) rL), fun j hj => (kpt_m k5 hj).trans ((kpt_m k4 hj).trans (r34 j hj)), _, nt_c_k (B := true) (fun j hj => kpt_m k0 hj) e1, e2⟩⟩
theorem lx_nt_3 (H : ab_Hand l G) (hI : lx_I h n cs ss) (r : Int32) (hr0 : 0 ≤ r.toInt) (hr1 : r.toInt ≤ 11) : lx_B l G mt_X10_note mt_X11_note [.ref 0, .int (Int32.ofInt 3), .int r] [.ref 542, .int (Int32.ofInt 3), .int r] h n cs ss := by
  have hI' := hI
  obtain ⟨hT, -, -, rL, r34, c, c10, c11⟩ := hI'
  by_cases hf : (c 3).toInt = 30
  · have e30 : c 3 = Int32.ofInt 30 := Int32.toInt_inj.mp (by rw [hf]; rfl)
    have q10 := (c10 3 (by decide)).1
    have q11 := (c11 3 (by decide)).1
    rw [e30] at q10 q11
    refine lx_BC hI (nf_X10_3 H hT r34 r hr0 hr1 q10) (fun h1 n1 t1 f1 => nf_X11_3 H t1 r hr0 hr1 ?_)
    exact (f1 555 (by have := hT.1; omega) 3 (by decide) (by decide +kernel)).trans q11
  · have h29 : (c 3).toInt ≤ 29 := by have := (c10 3 (by decide)).2.2; omega
    obtain ⟨h1, n1, m1, t1, e1, f1⟩ := nt_X10_3 H hT r34 r hr0 hr1 c10 h29
    have k1 : kpt lx_N1 h h1 := kp_of (by decide +kernel) f1 hT.1
    have k4 : kpt lx_N4 h h1 := kp_of (by decide +kernel) f1 hT.1
    obtain ⟨h2, n2, m2, t2, e2, f2⟩ := nt_X11_3 H t1 r hr0 hr1 (nt_c_k (B := false) (fun j hj => kpt_m k1 hj) c11) h29
    have k0 : kpt lx_N0 h1 h2 := kp_of (by decide +kernel) f2 t1.1
    have k5 : kpt lx_N4 h1 h2 := kp_of (by decide +kernel) f2 t1.1
    exact ⟨_, h1, n1, h2, n2, m1, m2, t1, lx_I_of hI f1 t1 f2 t2 (by decide +kernel) (by decide +kernel) ⟨lx_RL_k (kp_of (by decide +kernel) f2 t1.1) (lx_RL_k (kp_of (by decide +kernel) f1 hT.1) rL), fun j hj => (kpt_m k5 hj).trans ((kpt_m k4 hj).trans (r34 j hj)), _, nt_c_k (B := true) (fun j hj => kpt_m k0 hj) e1, e2⟩⟩
theorem lx_nt_4 (H : ab_Hand l G) (hI : lx_I h n cs ss) (r : Int32) (hr0 : 0 ≤ r.toInt) (hr1 : r.toInt ≤ 11) : lx_B l G mt_X10_note mt_X11_note [.ref 0, .int (Int32.ofInt 4), .int r] [.ref 542, .int (Int32.ofInt 4), .int r] h n cs ss := by
  have hI' := hI
  obtain ⟨hT, -, -, rL, r34, c, c10, c11⟩ := hI'
  by_cases hf : (c 4).toInt = 30
  · have e30 : c 4 = Int32.ofInt 30 := Int32.toInt_inj.mp (by rw [hf]; rfl)
    have q10 := (c10 4 (by decide)).1
    have q11 := (c11 4 (by decide)).1
    rw [e30] at q10 q11
    refine lx_BC hI (nf_X10_4 H hT r34 r hr0 hr1 q10) (fun h1 n1 t1 f1 => nf_X11_4 H t1 r hr0 hr1 ?_)
    exact (f1 555 (by have := hT.1; omega) 4 (by decide) (by decide +kernel)).trans q11
  · have h29 : (c 4).toInt ≤ 29 := by have := (c10 4 (by decide)).2.2; omega
    obtain ⟨h1, n1, m1, t1, e1, f1⟩ := nt_X10_4 H hT r34 r hr0 hr1 c10 h29
    have k1 : kpt lx_N1 h h1 := kp_of (by decide +kernel) f1 hT.1
    have k4 : kpt lx_N4 h h1 := kp_of (by decide +kernel) f1 hT.1
    obtain ⟨h2, n2, m2, t2, e2, f2⟩ := nt_X11_4 H t1 r hr0 hr1 (nt_c_k (B := false) (fun j hj => kpt_m k1 hj) c11) h29
    have k0 : kpt lx_N0 h1 h2 := kp_of (by decide +kernel) f2 t1.1
    have k5 : kpt lx_N4 h1 h2 := kp_of (by decide +kernel) f2 t1.1
    exact ⟨_, h1, n1, h2, n2, m1, m2, t1, lx_I_of hI f1 t1 f2 t2 (by decide +kernel) (by decide +kernel) ⟨lx_RL_k (kp_of (by decide +kernel) f2 t1.1) (lx_RL_k (kp_of (by decide +kernel) f1 hT.1) rL), fun j hj => (kpt_m k5 hj).trans ((kpt_m k4 hj).trans (r34 j hj)), _, nt_c_k (B := true) (fun j hj => kpt_m k0 hj) e1, e2⟩⟩
theorem lx_nt_5 (H : ab_Hand l G) (hI : lx_I h n cs ss) (r : Int32) (hr0 : 0 ≤ r.toInt) (hr1 : r.toInt ≤ 11) : lx_B l G mt_X10_note mt_X11_note [.ref 0, .int (Int32.ofInt 5), .int r] [.ref 542, .int (Int32.ofInt 5), .int r] h n cs ss := by
  have hI' := hI
  obtain ⟨hT, -, -, rL, r34, c, c10, c11⟩ := hI'
  by_cases hf : (c 5).toInt = 30
  · have e30 : c 5 = Int32.ofInt 30 := Int32.toInt_inj.mp (by rw [hf]; rfl)
    have q10 := (c10 5 (by decide)).1
    have q11 := (c11 5 (by decide)).1
    rw [e30] at q10 q11
    refine lx_BC hI (nf_X10_5 H hT r34 r hr0 hr1 q10) (fun h1 n1 t1 f1 => nf_X11_5 H t1 r hr0 hr1 ?_)
    exact (f1 555 (by have := hT.1; omega) 5 (by decide) (by decide +kernel)).trans q11
  · have h29 : (c 5).toInt ≤ 29 := by have := (c10 5 (by decide)).2.2; omega
    obtain ⟨h1, n1, m1, t1, e1, f1⟩ := nt_X10_5 H hT r34 r hr0 hr1 c10 h29
    have k1 : kpt lx_N1 h h1 := kp_of (by decide +kernel) f1 hT.1
    have k4 : kpt lx_N4 h h1 := kp_of (by decide +kernel) f1 hT.1
    obtain ⟨h2, n2, m2, t2, e2, f2⟩ := nt_X11_5 H t1 r hr0 hr1 (nt_c_k (B := false) (fun j hj => kpt_m k1 hj) c11) h29
    have k0 : kpt lx_N0 h1 h2 := kp_of (by decide +kernel) f2 t1.1
    have k5 : kpt lx_N4 h1 h2 := kp_of (by decide +kernel) f2 t1.1
    exact ⟨_, h1, n1, h2, n2, m1, m2, t1, lx_I_of hI f1 t1 f2 t2 (by decide +kernel) (by decide +kernel) ⟨lx_RL_k (kp_of (by decide +kernel) f2 t1.1) (lx_RL_k (kp_of (by decide +kernel) f1 hT.1) rL), fun j hj => (kpt_m k5 hj).trans ((kpt_m k4 hj).trans (r34 j hj)), _, nt_c_k (B := true) (fun j hj => kpt_m k0 hj) e1, e2⟩⟩
theorem lx_nt (H : ab_Hand l G) (hI : lx_I h n cs ss) (a r : Int32) : lx_B l G mt_X10_note mt_X11_note [.ref 0, .int a, .int r] [.ref 542, .int a, .int r] h n cs ss := by
  by_cases ho : (0 ≤ a.toInt ∧ a.toInt ≤ 5) ∧ 0 ≤ r.toInt ∧ r.toInt ≤ 11
  · obtain ⟨⟨b0, b5⟩, hr0, hr1⟩ := ho
    have hm : a.toInt = 0 ∨ a.toInt = 1 ∨ a.toInt = 2 ∨ a.toInt = 3 ∨ a.toInt = 4 ∨ a.toInt = 5 := by omega
    rcases hm with e | e | e | e | e | e
    · obtain rfl : a = Int32.ofInt 0 := Int32.toInt_inj.mp (by rw [e]; rfl)
      exact lx_nt_0 H hI r hr0 hr1
    · obtain rfl : a = Int32.ofInt 1 := Int32.toInt_inj.mp (by rw [e]; rfl)
      exact lx_nt_1 H hI r hr0 hr1
    · obtain rfl : a = Int32.ofInt 2 := Int32.toInt_inj.mp (by rw [e]; rfl)
      exact lx_nt_2 H hI r hr0 hr1
    · obtain rfl : a = Int32.ofInt 3 := Int32.toInt_inj.mp (by rw [e]; rfl)
      exact lx_nt_3 H hI r hr0 hr1
    · obtain rfl : a = Int32.ofInt 4 := Int32.toInt_inj.mp (by rw [e]; rfl)
      exact lx_nt_4 H hI r hr0 hr1
    · obtain rfl : a = Int32.ofInt 5 := Int32.toInt_inj.mp (by rw [e]; rfl)
      exact lx_nt_5 H hI r hr0 hr1
  · exact lx_BC hI (no_X10 H hI.1 a r ho) (fun h1 n1 t1 _ => no_X11 H t1 a r ho)
end LR
