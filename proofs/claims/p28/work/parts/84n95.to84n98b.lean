section
/-! ===== what the reference says of a filling: its worth, the list of worths, the signs that all share; exactly (ways printed by wip/v2/mk95.py) ===== -/
/-- whether x, behind which stand f k, .., is taken (c places left) -/
def wt (f : Nat → Nat) (x : Nat) : Nat → Nat → Bool
  | 0, _ => false
  | c + 1, k => if f k = x then wt f x c (k + 1) else decide (x < f k)
/-- the worth of the first j of s signs -/
def wo (f : Nat → Nat) (s : Nat) : Nat → Int
  | 0 => 0
  | j + 1 => wo f s j + (if wt f (f j) (s - j - 1) (j + 1) = true then -pg_w (f j : Int) else pg_w (f j : Int))
theorem wt_tk {φ : Int → Int} {f : Nat → Nat} {x : Nat} : ∀ (c k : Nat), (∀ i, k ≤ i → i < k + c → φ (i : Int) = (f i : Int)) → tk φ (x : Int) c (k : Int) = wt f x c k
  | 0, _, _ => rfl
  | c + 1, k, e => by
    have e0 := e k (by omega) (by omega)
    have ih := wt_tk (x := x) c (k + 1) (fun i h1 h2 => e i (by omega) (by omega))
    rw [tk, wt, e0, show ((k : Int) + 1) = ((k + 1 : Nat) : Int) by omega, ih]
    by_cases q : f k = x
    · rw [if_pos q, if_pos (by omega)]
    · rw [if_neg q, if_neg (by omega)]
      by_cases u : x < f k
      · rw [decide_eq_true u, decide_eq_true (by omega)]
      · rw [decide_eq_false u, decide_eq_false (by omega)]
theorem wt_cg {f g : Nat → Nat} {x : Nat} : ∀ (c k : Nat), (∀ i, k ≤ i → i < k + c → f i = g i) → wt f x c k = wt g x c k
  | 0, _, _ => rfl
  | c + 1, k, e => by
    rw [wt, wt, e k (by omega) (by omega), wt_cg c (k + 1) (fun i h1 h2 => e i (by omega) (by omega))]
theorem wo_cg {f g : Nat → Nat} {s : Nat} (e : ∀ i, i < s → f i = g i) : ∀ j : Nat, j ≤ s → wo f s j = wo g s j
  | 0, _ => rfl
  | j + 1, hj => by
    rw [wo, wo, wo_cg e j (by omega), e j (by omega), wt_cg (s - j - 1) (j + 1) (fun i h1 h2 => e i (by omega))]
theorem wo_b {f : Nat → Nat} {s : Nat} (hf : ∀ i, i < s → f i < 14) : ∀ j : Nat, j ≤ s → -1000000 * (j : Int) ≤ wo f s j ∧ wo f s j ≤ 1000000 * (j : Int)
  | 0, _ => by
    show -1000000 * ((0 : Nat) : Int) ≤ 0 ∧ (0 : Int) ≤ 1000000 * ((0 : Nat) : Int)
    omega
  | j + 1, hj => by
    have ih := wo_b hf j (by omega)
    have hw := pg_w_r (f j) (hf j (by omega))
    rw [wo]
    split <;> omega
/-- fillings of which something was said: their length and their signs -/
abbrev fl_D := Nat → (Nat → Nat) → Prop
def fl_W (D : fl_D) (v : Int) : Prop := ∃ (s : Nat) (g : Nat → Nat), D s g ∧ wo g s s = v
def fl_T (D : fl_D) (i x : Nat) : Prop := ∃ (s : Nat) (g : Nat → Nat), D s g ∧ g i = x
/-- one more -/
def fl_1 (D : fl_D) (size : Nat) (f : Nat → Nat) : fl_D := fun s g => D s g ∨ s = size ∧ ∀ i, i < size → g i = f i
theorem fl_W1 {D : fl_D} {size : Nat} {f : Nat → Nat} (v : Int) : fl_W (fl_1 D size f) v ↔ fl_W D v ∨ v = wo f size size := by
  constructor
  · rintro ⟨s, g, z | ⟨rfl, z⟩, e⟩
    · exact Or.inl ⟨s, g, z, e⟩
    · exact Or.inr (e.symm.trans (wo_cg z s (Nat.le_refl s)))
  · rintro (⟨s, g, z, e⟩ | e)
    · exact ⟨s, g, Or.inl z, e⟩
    · exact ⟨size, f, Or.inr ⟨rfl, fun _ _ => rfl⟩, e.symm⟩
theorem fl_T1 {D : fl_D} {size : Nat} {f : Nat → Nat} {i : Nat} (hi : i < size) (x : Nat) : fl_T (fl_1 D size f) i x ↔ fl_T D i x ∨ x = f i := by
  constructor
  · rintro ⟨s, g, z | ⟨rfl, z⟩, e⟩
    · exact Or.inl ⟨s, g, z, e⟩
    · exact Or.inr (e.symm.trans (z i hi))
  · rintro (⟨s, g, z, e⟩ | e)
    · exact ⟨s, g, Or.inl z, e⟩
    · exact ⟨size, f, Or.inr ⟨rfl, fun _ _ => rfl⟩, e.symm⟩
/-- where the search of a worth begins -/
def sd_h (v : Int) : Int := ((((Int32.ofInt v * (Int32.ofInt 40503))).toUInt32 >>> (((Int32.ofInt 3)).toUInt32 &&& Int32.toUInt32 31)).toInt32).toInt % 131072
theorem sd_h0 (v : Int) : 0 ≤ sd_h v ∧ sd_h v < 131072 := by
  unfold sd_h
  omega
/-- the worths said so far are those of W, each once, and each is found -/
def SD (h : ax_H) (m : Nat) (W : Int → Prop) : Prop := ab_ri h 542 37 = (m : Int) ∧ (∀ v : Int, W v ↔ ∃ j : Nat, j < m ∧ ab_ri h 568 (j : Int) = v) ∧ (∀ i j : Nat, i < m → j < m → ab_ri h 568 (i : Int) = ab_ri h 568 (j : Int) → i = j) ∧ (∀ t : Int, 0 ≤ t → t < 131072 → ab_ri h 569 t ≠ 0 → 1 ≤ ab_ri h 569 t ∧ ab_ri h 569 t ≤ (m : Int)) ∧
  ∀ j : Nat, j < m → ∃ t : Nat, t < 131072 ∧ ab_ri h 569 ((sd_h (ab_ri h 568 (j : Int)) + (t : Int)) % 131072) = (j : Int) + 1 ∧ ∀ t' : Nat, t' < t → ab_ri h 569 ((sd_h (ab_ri h 568 (j : Int)) + (t' : Int)) % 131072) ≠ 0
theorem SD_ex {h : ax_H} {m : Nat} {W W' : Int → Prop} (e : ∀ v, W v ↔ W' v) (S : SD h m W) : SD h m W' := ⟨S.1, fun v => (e v).symm.trans (S.2.1 v), S.2.2⟩
theorem SD_fr {h h' : ax_H} {m : Nat} {W : Int → Prop} (e1 : ab_ri h' 542 37 = ab_ri h 542 37) (e2 : ∀ i : Int, ab_ri h' 568 i = ab_ri h 568 i) (e3 : ∀ i : Int, ab_ri h' 569 i = ab_ri h 569 i) (S : SD h m W) : SD h' m W := by
  obtain ⟨s1, s2, s3, s4, s5⟩ := S
  refine ⟨e1.trans s1, fun v => ?_, fun i j hi hj => ?_, fun t h0 h1 => ?_, fun j hj => ?_⟩
  · rw [s2 v]
    exact ⟨fun ⟨j, a, b⟩ => ⟨j, a, (e2 _).trans b⟩, fun ⟨j, a, b⟩ => ⟨j, a, (e2 _).symm.trans b⟩⟩
  · rw [e2, e2]
    exact s3 i j hi hj
  · rw [e3]
    exact s4 t h0 h1
  · obtain ⟨t, a, b, c⟩ := s5 j hj
    refine ⟨t, a, ?_, fun t' ht => ?_⟩
    · rw [e2, e3]; exact b
    · rw [e2, e3]; exact c t' ht
/-- none said yet -/
theorem SD_0 {h : ax_H} (e1 : ab_ri h 542 37 = 0) (e2 : ∀ t : Nat, t < 131072 → ab_ri h 569 (t : Int) = 0) : SD h 0 (fun _ => False) := by
  refine ⟨e1, fun v => ⟨fun q => q.elim, fun ⟨j, hj, _⟩ => absurd hj (Nat.not_lt_zero j)⟩, fun i j hi => absurd hi (Nat.not_lt_zero i), fun t h0 h1 hz => ?_, fun j hj => absurd hj (Nat.not_lt_zero j)⟩
  have := e2 t.toNat (by omega)
  rw [show ((t.toNat : Nat) : Int) = t by omega] at this
  exact absurd this hz
/-- what is looked for and not met before a free place, wasn't said -/
theorem SD_not {h : ax_H} {m : Nat} {W : Int → Prop} (S : SD h m W) {v : Int} {t : Nat} (hz : ab_ri h 569 ((sd_h v + (t : Int)) % 131072) = 0) (hn : ∀ t' : Nat, t' < t → ab_ri h 569 ((sd_h v + (t' : Int)) % 131072) ≠ 0 ∧ ab_ri h 568 (ab_ri h 569 ((sd_h v + (t' : Int)) % 131072) - 1) ≠ v) : ∀ j : Nat, j < m → ab_ri h 568 (j : Int) ≠ v := by
  intro j hj e
  obtain ⟨u, u1, u2, u3⟩ := S.2.2.2.2 j hj
  rw [e] at u2 u3
  have h3 : u < t ∨ u = t ∨ t < u := by omega
  rcases h3 with q | q | q
  · refine (hn u q).2 ?_
    rw [u2, show (j : Int) + 1 - 1 = (j : Int) by omega]
    exact e
  · rw [q, hz] at u2
    omega
  · exact u3 t q hz
/-- one more said -/
theorem SD_put {h h' : ax_H} {m : Nat} {W : Int → Prop} (S : SD h m W) {v : Int} {t : Nat} (ht : t < 131072) (hz : ab_ri h 569 ((sd_h v + (t : Int)) % 131072) = 0) (hn : ∀ t' : Nat, t' < t → ab_ri h 569 ((sd_h v + (t' : Int)) % 131072) ≠ 0 ∧ ab_ri h 568 (ab_ri h 569 ((sd_h v + (t' : Int)) % 131072) - 1) ≠ v)
    (e1 : ab_ri h' 542 37 = (m : Int) + 1) (e2 : ∀ i : Int, ab_ri h' 568 i = if i = (m : Int) then v else ab_ri h 568 i) (e3 : ∀ i : Int, ab_ri h' 569 i = if i = (sd_h v + (t : Int)) % 131072 then (m : Int) + 1 else ab_ri h 569 i) : SD h' (m + 1) (fun u => W u ∨ u = v) := by
  have hno := SD_not S hz hn
  obtain ⟨s1, s2, s3, s4, s5⟩ := S
  have eo : ∀ j : Nat, j < m → ab_ri h' 568 (j : Int) = ab_ri h 568 (j : Int) := fun j hj => by rw [e2, if_neg (by omega)]
  have em : ab_ri h' 568 (m : Int) = v := by rw [e2, if_pos rfl]
  have nz0 : ∀ i : Int, ab_ri h 569 i ≠ 0 → ab_ri h' 569 i ≠ 0 := fun i hi => by
    rw [e3]
    split
    · omega
    · exact hi
  refine ⟨by rw [e1]; omega, fun u => ?_, fun i j hi hj e => ?_, fun i h0 h1 hi => ?_, fun j hj => ?_⟩
  · show W u ∨ u = v ↔ _
    rw [s2 u]
    constructor
    · rintro (⟨j, a, b⟩ | b)
      · exact ⟨j, by omega, (eo j a).trans b⟩
      · exact ⟨m, by omega, em.trans b.symm⟩
    · rintro ⟨j, a, b⟩
      by_cases q : j = m
      · rw [q, em] at b
        exact Or.inr b.symm
      · exact Or.inl ⟨j, by omega, (eo j (by omega)).symm.trans b⟩
  · by_cases qi : i = m
    · by_cases qj : j = m
      · omega
      · rw [qi, em, eo j (by omega)] at e
        exact absurd e.symm (hno j (by omega))
    · by_cases qj : j = m
      · rw [qj, em, eo i (by omega)] at e
        exact absurd e (hno i (by omega))
      · rw [eo i (by omega), eo j (by omega)] at e
        exact s3 i j (by omega) (by omega) e
  · rw [e3] at hi ⊢
    split
    · omega
    · rename_i q
      rw [if_neg q] at hi
      have := s4 i h0 h1 hi
      omega
  · by_cases q : j = m
    · subst q
      rw [em]
      exact ⟨t, ht, by rw [e3, if_pos rfl], fun t' h' => nz0 _ (hn t' h').1⟩
    · obtain ⟨u, u1, u2, u3⟩ := s5 j (by omega)
      rw [eo j (by omega)]
      refine ⟨u, u1, ?_, fun t' h' => nz0 _ (u3 t' h')⟩
      rw [e3, if_neg (fun z => by rw [z, hz] at u2; omega)]
      exact u2
/-- the sign that all share: c; 14: they differ; -1: there is none -/
def sf (T : Nat → Prop) (c : Int) : Prop := (c = -1 ∧ ∀ x, ¬ T x) ∨ (∃ x : Nat, c = (x : Int) ∧ x < 14 ∧ T x ∧ ∀ y, T y → y = x) ∨ c = 14 ∧ ∃ x y : Nat, T x ∧ T y ∧ x ≠ y
theorem sf_ex {T T' : Nat → Prop} {c : Int} (e : ∀ x, T x ↔ T' x) (s : sf T c) : sf T' c := by
  rcases s with ⟨a, b⟩ | ⟨x, a, b, c', d⟩ | ⟨a, x, y, b, c', d⟩
  · exact Or.inl ⟨a, fun x q => b x ((e x).mpr q)⟩
  · exact Or.inr (Or.inl ⟨x, a, b, (e x).mp c', fun y q => d y ((e y).mpr q)⟩)
  · exact Or.inr (Or.inr ⟨a, x, y, (e x).mp b, (e y).mp c', d⟩)
theorem sf_1 {T : Nat → Prop} {c : Int} {x : Nat} (hx : x < 14) (s : sf T c) : sf (fun y => T y ∨ y = x) (if c = -1 then (x : Int) else if c = (x : Int) then (x : Int) else 14) := by
  rcases s with ⟨a, b⟩ | ⟨z, a, b, c', d⟩ | ⟨a, z, y, b, c', d⟩
  · rw [if_pos a]
    exact Or.inr (Or.inl ⟨x, rfl, hx, Or.inr rfl, fun y q => q.elim (fun u => absurd u (b y)) id⟩)
  · rw [if_neg (by omega)]
    by_cases q : c = (x : Int)
    · rw [if_pos q]
      exact Or.inr (Or.inl ⟨x, rfl, hx, Or.inr rfl, fun y u => u.elim (fun v => by have := d y v; omega) id⟩)
    · rw [if_neg q]
      exact Or.inr (Or.inr ⟨rfl, z, x, Or.inl c', Or.inr rfl, by omega⟩)
  · rw [if_neg (by omega), if_neg (by omega)]
    exact Or.inr (Or.inr ⟨rfl, z, y, Or.inl b, Or.inl c', d⟩)
def TS (h : ax_H) (p : Nat) (T : Nat → Nat → Prop) : Prop := ∀ i : Nat, i < p → sf (T i) (ab_ri h 570 (i : Int))
set_option maxRecDepth 100000 in
theorem wx_loop {l : Launch} {G : ax_T} {d : Nat} {h : ax_H} {n : Nat} (hd : 1 ≤ d) (H : mc_HW h n) {f s : Int32} (hf : f.toInt = 0) {size : Nat} (hs : s.toInt = (size : Int)) (hs1 : size ≤ 21) {F : Nat → Nat} (hF : ∀ j : Nat, j < size → ab_ri h 571 (j : Int) = (F j : Int)) (hF1 : ∀ j, j < size → F j < 14) : ∀ (c j : Nat) (a i : Int32), j + c = size → i.toInt = (j : Int) → a.toInt = wo F size j → mc_R l G mt_X11_worthOf d (mc_P h n fun y => y.toInt = wo F size size) (6, [(0, .ref 542), (1, .ref 571), (2, .int f), (3, .int s), (4, .int a), (5, .int i)], [], h, n, 0, 0) := by
  have hmi : mt_X11_worthOf ∈ mt_prog := List.mem_of_getElem? mi_X11_worthOf
  intro c
  induction c with
  | zero =>
    intro j a i hj hi ha
    refine mc_cx hmi 2 (F' := (9, [(0, .ref 542), (1, .ref 571), (2, .int f), (3, .int s), (4, .int a), (5, .int i)], [.int s, .int i], h, n, 0, 0)) (by with_unfolding_all rfl) ?_
    refine mc_ci hmi (c := .ge) (tg := 60) (pc' := 12) rfl rfl rfl hi hs (fun (q101 : (size : Int) ≤ (j : Int)) => ?_) (fun (q101 : (j : Int) < (size : Int)) => ?_)
    · refine mc_cx hmi 1 (F' := (62, [(0, .ref 542), (1, .ref 571), (2, .int f), (3, .int s), (4, .int a), (5, .int i)], [.int a], h, n, 0, 0)) (by with_unfolding_all rfl) ?_
      obtain rfl : j = size := by omega
      exact mc_ret hmi rfl rfl rfl ⟨rfl, rfl, _, rfl, ha⟩
    · exact absurd q101 (by omega)
  | succ c ih =>
    intro j a i hj hi ha
    refine mc_cx hmi 2 (F' := (9, [(0, .ref 542), (1, .ref 571), (2, .int f), (3, .int s), (4, .int a), (5, .int i)], [.int s, .int i], h, n, 0, 0)) (by with_unfolding_all rfl) ?_
    refine mc_ci hmi (c := .ge) (tg := 60) (pc' := 12) rfl rfl rfl hi hs (fun (q102 : (size : Int) ≤ (j : Int)) => ?_) (fun (q102 : (j : Int) < (size : Int)) => ?_)
    · exact absurd q102 (by omega)
    · have hFj := hF1 j (by omega)
      have hwb := wo_b hF1 j (by omega)
      have hw14 := pg_w_r (F j) hFj
      refine mc_cx hmi 5 (F' := (19, [(0, .ref 542), (1, .ref 571), (2, .int f), (3, .int s), (4, .int a), (5, .int i)], [.int i, .int s, .int f, .ref 571, .int a], h, n, 0, 0)) (by with_unfolding_all rfl) ?_
      have key : ∀ (u : Int32) (v : Int), u.toInt = v → v = (if wt F (F j) (size - j - 1) (j + 1) = true then -pg_w (F j : Int) else pg_w (F j : Int)) → mc_R l G mt_X11_worthOf d (mc_P h n fun y => y.toInt = wo F size size) (51, [(0, .ref 542), (1, .ref 571), (2, .int f), (3, .int s), (4, .int a), (5, .int i)], [.int u, .int a], h, n, 0, 0) := by
        intro u v hu hv
        have hv1 : -1000000 ≤ v ∧ v ≤ 1000000 := by rw [hv]; split <;> omega
        refine mc_cx hmi 4 (F' := (6, [(5, .int (i + Int32.ofInt 1)), (4, .int (a + u)), (0, .ref 542), (1, .ref 571), (2, .int f), (3, .int s)], [], h, n, 0, 0)) (by with_unfolding_all rfl) ?_
        have e103 : (a + u).toInt = wo F size j + v := mc_add ha hu (by omega) (by omega)
        have e104 : (i + Int32.ofInt 1).toInt = (j : Int) + 1 := mc_add hi (by decide) (by omega) (by omega)
        refine mc_lvs (lv' := [(0, .ref 542), (1, .ref 571), (2, .int f), (3, .int s), (4, .int (a + u)), (5, .int (i + Int32.ofInt 1))]) (by simp) ?_
        exact ih (j + 1) (a + u) (i + Int32.ofInt 1) (by omega) (by rw [e104]; omega) (by rw [e103, wo, hv])
      refine mc_callP hmi (en := (19, .invokestatic 145, 3, (3, 165, 0, 0), [1329, 1328])) rfl (q := (mt_X11_isTaken, [.ref 571, .int f, .int s, .int i], [.int a])) (by with_unfolding_all rfl) ⟨rfl, rfl⟩ (pc' := 22) rfl (mc_isTaken_571 hd H f s i (by omega) (by omega) (by omega) (by omega)) (fun y105 e106 => ?_)
      have htk : tk (ab_ri h 571) (ab_ri h 571 (f.toInt + i.toInt)) (s.toInt - i.toInt - 1).toNat (f.toInt + i.toInt + 1) = wt F (F j) (size - j - 1) (j + 1) := by
        rw [hf, hi, hs, Int.zero_add, hF j (by omega), show ((size : Int) - (j : Int) - 1).toNat = size - j - 1 by omega, show ((j : Int) + 1) = ((j + 1 : Nat) : Int) by omega]
        exact wt_tk _ _ (fun i' h1 h2 => hF i' (by omega))
      rw [htk] at e106
      refine mc_cz hmi (c := .eq) (tg := 40) (pc' := 25) rfl rfl rfl rfl (fun (q107 : y105.toInt = 0) => ?_) (fun (q107 : y105.toInt ≠ 0) => ?_)
      · refine mc_cx hmi 1 (F' := (41, [(0, .ref 542), (1, .ref 571), (2, .int f), (3, .int s), (4, .int a), (5, .int i)], [.ref 542, .int a], h, n, 0, 0)) (by with_unfolding_all rfl) ?_
        refine mc_getr hmi H (k := 542) (c := 543) (pc' := 44) rfl rfl rfl rfl rfl ?_
        refine mc_cx hmi 4 (F' := (49, [(0, .ref 542), (1, .ref 571), (2, .int f), (3, .int s), (4, .int a), (5, .int i)], [.int (f + i), .ref 571, .ref 543, .int a], h, n, 0, 0)) (by with_unfolding_all rfl) ?_
        have e108 : (f + i).toInt = 0 + (j : Int) := mc_add hf hi (by omega) (by omega)
        refine mc_iald hmi H (k := 571) (i := (0 + (j : Int))) (pc' := 50) rfl rfl rfl e108 (by omega) (by omega) rfl (fun y109 e110 r111 r112 => ?_)
        rw [e110] at r111 r112
        rw [Int.zero_add, hF j (by omega)] at e110
        refine mc_iald hmi H (k := 543) (i := (F j : Int)) (pc' := 51) rfl rfl rfl e110 (by omega) (by omega) rfl (fun y113 e114 r115 r116 => ?_)
        rw [e114] at r115 r116
        rw [wo_i H (by omega) (by omega)] at e114
        exact key _ _ e114 (by rw [if_neg (fun q => by rw [if_pos q, q107] at e106; exact absurd e106 (by decide))])
      · refine mc_cx hmi 1 (F' := (26, [(0, .ref 542), (1, .ref 571), (2, .int f), (3, .int s), (4, .int a), (5, .int i)], [.ref 542, .int a], h, n, 0, 0)) (by with_unfolding_all rfl) ?_
        refine mc_getr hmi H (k := 542) (c := 543) (pc' := 29) rfl rfl rfl rfl rfl ?_
        refine mc_cx hmi 4 (F' := (34, [(0, .ref 542), (1, .ref 571), (2, .int f), (3, .int s), (4, .int a), (5, .int i)], [.int (f + i), .ref 571, .ref 543, .int a], h, n, 0, 0)) (by with_unfolding_all rfl) ?_
        have e117 : (f + i).toInt = 0 + (j : Int) := mc_add hf hi (by omega) (by omega)
        refine mc_iald hmi H (k := 571) (i := (0 + (j : Int))) (pc' := 35) rfl rfl rfl e117 (by omega) (by omega) rfl (fun y118 e119 r120 r121 => ?_)
        rw [e119] at r120 r121
        rw [Int.zero_add, hF j (by omega)] at e119
        refine mc_iald hmi H (k := 543) (i := (F j : Int)) (pc' := 36) rfl rfl rfl e119 (by omega) (by omega) rfl (fun y122 e123 r124 r125 => ?_)
        rw [e123] at r124 r125
        rw [wo_i H (by omega) (by omega)] at e123
        refine mc_cx hmi 2 (F' := (51, [(0, .ref 542), (1, .ref 571), (2, .int f), (3, .int s), (4, .int a), (5, .int i)], [.int (-y122), .int a], h, n, 0, 0)) (by with_unfolding_all rfl) ?_
        have e126 : (-y122).toInt = -pg_w (F j : Int) := mc_neg e123 (by omega)
        exact key _ _ e126 (by rw [if_pos (Decidable.byContradiction fun q => by rw [if_neg q] at e106; exact q107 e106)])
set_option maxRecDepth 100000 in
theorem wx_worthOf {l : Launch} {G : ax_T} {d : Nat} {h : ax_H} {n : Nat} (hd : 2 ≤ d) (H : mc_HW h n) {f s : Int32} (hf : f.toInt = 0) {size : Nat} (hs : s.toInt = (size : Int)) (hs1 : size ≤ 21) {F : Nat → Nat} (hF : ∀ j : Nat, j < size → ab_ri h 571 (j : Int) = (F j : Int)) (hF1 : ∀ j, j < size → F j < 14) : mc_M l G d mt_X11_worthOf [.ref 542, .ref 571, .int f, .int s] h n (mc_P h n fun y => y.toInt = wo F size size) := by
  obtain ⟨d, rfl⟩ : ∃ e, d = e + 1 := ⟨d - 1, by omega⟩
  have hmi : mt_X11_worthOf ∈ mt_prog := List.mem_of_getElem? mi_X11_worthOf
  refine mc_to hmi rfl ?_
  show mc_R _ _ _ _ _ (0, [(0, .ref 542), (1, .ref 571), (2, .int f), (3, .int s)], [], h, n, 0, 0)
  refine mc_cx hmi 4 (F' := (6, [(5, .int (Int32.ofInt 0)), (4, .int (Int32.ofInt 0)), (0, .ref 542), (1, .ref 571), (2, .int f), (3, .int s)], [], h, n, 0, 0)) (by with_unfolding_all rfl) ?_
  refine mc_lvs (lv' := [(0, .ref 542), (1, .ref 571), (2, .int f), (3, .int s), (4, .int (Int32.ofInt 0)), (5, .int (Int32.ofInt 0))]) (by simp) ?_
  exact wx_loop (by omega) H hf hs hs1 hF hF1 size 0 _ _ (by omega) (by decide) (show (Int32.ofInt 0).toInt = (0 : Int) from by decide)
set_option maxRecDepth 100000 in
theorem sx_loop {l : Launch} {G : ax_T} {d : Nat} {h : ax_H} {n : Nat} (H : mc_HW h n) {m : Nat} {W : Int → Prop} (S : SD h m W) (w : Int32) {t0 : Nat} (hz : ab_ri h 569 ((sd_h w.toInt + (t0 : Int)) % 131072) = 0) (kk : ∀ (t : Nat) (a : Int32), t ≤ t0 → a.toInt = (sd_h w.toInt + (t : Int)) % 131072 → ab_ri h 569 ((sd_h w.toInt + (t : Int)) % 131072) = 0 → (∀ t' : Nat, t' < t → ab_ri h 569 ((sd_h w.toInt + (t' : Int)) % 131072) ≠ 0 ∧ ab_ri h 568 (ab_ri h 569 ((sd_h w.toInt + (t' : Int)) % 131072) - 1) ≠ w.toInt) → mc_R l G mt_X11_say d (fun r' h' n' => n' = n ∧ r' = none ∧ SY h h' n ∧ ∃ m' : Nat, SD h' m' (fun v => W v ∨ v = w.toInt)) (47, [(0, .ref 542), (1, .int w), (2, .int a)], [], h, n, 0, 0)) : ∀ (c t : Nat) (a : Int32), t + c = t0 → a.toInt = (sd_h w.toInt + (t : Int)) % 131072 → (∀ t' : Nat, t' < t → ab_ri h 569 ((sd_h w.toInt + (t' : Int)) % 131072) ≠ 0 ∧ ab_ri h 568 (ab_ri h 569 ((sd_h w.toInt + (t' : Int)) % 131072) - 1) ≠ w.toInt) → mc_R l G mt_X11_say d (fun r' h' n' => n' = n ∧ r' = none ∧ SY h h' n ∧ ∃ m' : Nat, SD h' m' (fun v => W v ∨ v = w.toInt)) (10, [(0, .ref 542), (1, .int w), (2, .int a)], [], h, n, 0, 0) := by
  have hmi : mt_X11_say ∈ mt_prog := List.mem_of_getElem? mi_X11_say
  have hh := sd_h0 w.toInt
  intro c
  induction c with
  | zero =>
    intro t a hc ha hn
    refine mc_cx hmi 1 (F' := (11, [(0, .ref 542), (1, .int w), (2, .int a)], [.ref 542], h, n, 0, 0)) (by with_unfolding_all rfl) ?_
    refine mc_getr hmi H (k := 542) (c := 569) (pc' := 14) rfl rfl rfl rfl rfl ?_
    refine mc_cx hmi 1 (F' := (15, [(0, .ref 542), (1, .int w), (2, .int a)], [.int a, .ref 569], h, n, 0, 0)) (by with_unfolding_all rfl) ?_
    refine mc_iald hmi H (k := 569) (i := (sd_h w.toInt + (t : Int)) % 131072) (pc' := 16) rfl rfl rfl ha (by omega) (by omega) rfl (fun y127 e128 r129 r130 => ?_)
    rw [e128] at r129 r130
    refine mc_cz hmi (c := .eq) (tg := 47) (pc' := 19) rfl rfl rfl e128 (fun (q131 : ab_ri h 569 ((sd_h w.toInt + (t : Int)) % 131072) = 0) => ?_) (fun (q131 : ab_ri h 569 ((sd_h w.toInt + (t : Int)) % 131072) ≠ 0) => ?_)
    · exact kk t a (by omega) ha q131 hn
    · obtain rfl : t = t0 := by omega
      exact absurd hz q131
  | succ c ih =>
    intro t a hc ha hn
    refine mc_cx hmi 1 (F' := (11, [(0, .ref 542), (1, .int w), (2, .int a)], [.ref 542], h, n, 0, 0)) (by with_unfolding_all rfl) ?_
    refine mc_getr hmi H (k := 542) (c := 569) (pc' := 14) rfl rfl rfl rfl rfl ?_
    refine mc_cx hmi 1 (F' := (15, [(0, .ref 542), (1, .int w), (2, .int a)], [.int a, .ref 569], h, n, 0, 0)) (by with_unfolding_all rfl) ?_
    refine mc_iald hmi H (k := 569) (i := (sd_h w.toInt + (t : Int)) % 131072) (pc' := 16) rfl rfl rfl ha (by omega) (by omega) rfl (fun y132 e133 r134 r135 => ?_)
    rw [e133] at r134 r135
    refine mc_cz hmi (c := .eq) (tg := 47) (pc' := 19) rfl rfl rfl e133 (fun (q136 : ab_ri h 569 ((sd_h w.toInt + (t : Int)) % 131072) = 0) => ?_) (fun (q136 : ab_ri h 569 ((sd_h w.toInt + (t : Int)) % 131072) ≠ 0) => ?_)
    · exact kk t a (by omega) ha q136 hn
    · have hr := S.2.2.2.1 _ (by omega) (by omega) q136
      have hmb : 0 ≤ ab_ri h 542 37 ∧ ab_ri h 542 37 ≤ 40000 := mc_frng H (k := 542) (j := 37) (ci := 11) rfl rfl
      have hmS := S.1
      refine mc_cx hmi 1 (F' := (20, [(0, .ref 542), (1, .int w), (2, .int a)], [.ref 542], h, n, 0, 0)) (by with_unfolding_all rfl) ?_
      refine mc_getr hmi H (k := 542) (c := 568) (pc' := 23) rfl rfl rfl rfl rfl ?_
      refine mc_cx hmi 1 (F' := (24, [(0, .ref 542), (1, .int w), (2, .int a)], [.ref 542, .ref 568], h, n, 0, 0)) (by with_unfolding_all rfl) ?_
      refine mc_getr hmi H (k := 542) (c := 569) (pc' := 27) rfl rfl rfl rfl rfl ?_
      refine mc_cx hmi 1 (F' := (28, [(0, .ref 542), (1, .int w), (2, .int a)], [.int a, .ref 569, .ref 568], h, n, 0, 0)) (by with_unfolding_all rfl) ?_
      refine mc_iald hmi H (k := 569) (i := (sd_h w.toInt + (t : Int)) % 131072) (pc' := 29) rfl rfl rfl ha (by omega) (by omega) rfl (fun y137 e138 r139 r140 => ?_)
      rw [e138] at r139 r140
      refine mc_cx hmi 2 (F' := (31, [(0, .ref 542), (1, .int w), (2, .int a)], [.int (y137 - (Int32.ofInt 1)), .ref 568], h, n, 0, 0)) (by with_unfolding_all rfl) ?_
      have e141 : (y137 - (Int32.ofInt 1)).toInt = ab_ri h 569 ((sd_h w.toInt + (t : Int)) % 131072) - 1 := mc_sub e138 (by decide) (by omega) (by omega)
      refine mc_iald hmi H (k := 568) (i := (ab_ri h 569 ((sd_h w.toInt + (t : Int)) % 131072) - 1)) (pc' := 32) rfl rfl rfl e141 (by omega) (by omega) rfl (fun y142 e143 r144 r145 => ?_)
      rw [e143] at r144 r145
      refine mc_cx hmi 1 (F' := (33, [(0, .ref 542), (1, .int w), (2, .int a)], [.int w, .int y142], h, n, 0, 0)) (by with_unfolding_all rfl) ?_
      refine mc_ci hmi (c := .ne) (tg := 37) (pc' := 36) rfl rfl rfl e143 rfl (fun (q146 : ab_ri h 568 ((ab_ri h 569 ((sd_h w.toInt + (t : Int)) % 131072) - 1)) ≠ w.toInt) => ?_) (fun (q146 : ab_ri h 568 ((ab_ri h 569 ((sd_h w.toInt + (t : Int)) % 131072) - 1)) = w.toInt) => ?_)
      · refine mc_cx hmi 4 (F' := (42, [(0, .ref 542), (1, .int w), (2, .int a)], [.int (Int32.ofInt 131072), .int (a + (Int32.ofInt 1))], h, n, 0, 0)) (by with_unfolding_all rfl) ?_
        have e147 : (a + (Int32.ofInt 1)).toInt = (sd_h w.toInt + (t : Int)) % 131072 + 1 := mc_add ha (by decide) (by omega) (by omega)
        have e148 : ((a + (Int32.ofInt 1)) - (a + (Int32.ofInt 1)) / (Int32.ofInt 131072) * (Int32.ofInt 131072)).toInt = ((sd_h w.toInt + (t : Int)) % 131072 + 1) % 131072 := mc_rem e147 (by decide) (by omega) (by omega)
        refine mc_irem hmi (pc' := 43) rfl (show ((Int32.ofInt 131072)).toInt ≠ 0 from by decide) rfl ?_
        refine mc_cx hmi 2 (F' := (10, [(2, .int ((a + (Int32.ofInt 1)) - (a + (Int32.ofInt 1)) / (Int32.ofInt 131072) * (Int32.ofInt 131072))), (0, .ref 542), (1, .int w)], [], h, n, 0, 0)) (by with_unfolding_all rfl) ?_
        refine mc_lvs (lv' := [(0, .ref 542), (1, .int w), (2, .int ((a + (Int32.ofInt 1)) - (a + (Int32.ofInt 1)) / (Int32.ofInt 131072) * (Int32.ofInt 131072)))]) (by simp) ?_
        refine ih (t + 1) ((a + (Int32.ofInt 1)) - (a + (Int32.ofInt 1)) / (Int32.ofInt 131072) * (Int32.ofInt 131072)) (by omega) (by rw [e148]; omega) (fun t' h' => ?_)
        by_cases q : t' = t
        · rw [q]; exact ⟨q136, q146⟩
        · exact hn t' (by omega)
      · refine mc_ret hmi rfl rfl rfl ⟨rfl, rfl, ⟨H, Int.le_refl _, by omega, by omega, fun _ _ _ _ _ => rfl⟩, m, SD_ex (fun v => ⟨Or.inl, fun q => q.elim id (fun e => ?_)⟩) S⟩
        refine (S.2.1 v).mpr ⟨(ab_ri h 569 ((sd_h w.toInt + (t : Int)) % 131072) - 1).toNat, by omega, ?_⟩
        rw [show (((ab_ri h 569 ((sd_h w.toInt + (t : Int)) % 131072) - 1).toNat : Nat) : Int) = ab_ri h 569 ((sd_h w.toInt + (t : Int)) % 131072) - 1 by omega, q146, e]
set_option maxRecDepth 100000 in
theorem sx_say {l : Launch} {G : ax_T} {d : Nat} {h : ax_H} {n : Nat} (hd : 1 ≤ d) (H : mc_HW h n) {m : Nat} {W : Int → Prop} (S : SD h m W) (w : Int32) (hs1 : ab_ri h 542 37 ≤ 39999) (hnz : (nz (ab_ri h 569) 131072 : Int) ≤ ab_ri h 542 37) : mc_M l G d mt_X11_say [.ref 542, .int w] h n (fun r' h' n' => n' = n ∧ r' = none ∧ SY h h' n ∧ ∃ m' : Nat, SD h' m' (fun v => W v ∨ v = w.toInt)) := by
  obtain ⟨d, rfl⟩ : ∃ e, d = e + 1 := ⟨d - 1, by omega⟩
  have hmi : mt_X11_say ∈ mt_prog := List.mem_of_getElem? mi_X11_say
  have hs0 := S.1
  have hh := sd_h0 w.toInt
  obtain ⟨z, hz1, hz⟩ := nz_free (f := ab_ri h 569) 131072 (by omega)
  refine mc_to hmi rfl ?_
  show mc_R _ _ _ _ _ (0, [(0, .ref 542), (1, .int w)], [], h, n, 0, 0)
  refine mc_cx hmi 6 (F' := (8, [(0, .ref 542), (1, .int w)], [.int (Int32.ofInt 131072), .int (((w * (Int32.ofInt 40503))).toUInt32 >>> (((Int32.ofInt 3)).toUInt32 &&& Int32.toUInt32 31)).toInt32], h, n, 0, 0)) (by with_unfolding_all rfl) ?_
  have hu : 0 ≤ ((((w * (Int32.ofInt 40503))).toUInt32 >>> (((Int32.ofInt 3)).toUInt32 &&& Int32.toUInt32 31)).toInt32).toInt := mc_us3 _
  have e149 : ((((w * (Int32.ofInt 40503))).toUInt32 >>> (((Int32.ofInt 3)).toUInt32 &&& Int32.toUInt32 31)).toInt32 - (((w * (Int32.ofInt 40503))).toUInt32 >>> (((Int32.ofInt 3)).toUInt32 &&& Int32.toUInt32 31)).toInt32 / (Int32.ofInt 131072) * (Int32.ofInt 131072)).toInt = ((((w * (Int32.ofInt 40503))).toUInt32 >>> (((Int32.ofInt 3)).toUInt32 &&& Int32.toUInt32 31)).toInt32).toInt % 131072 := mc_rem rfl (by decide) (by omega) (by omega)
  refine mc_irem hmi (pc' := 9) rfl (show ((Int32.ofInt 131072)).toInt ≠ 0 from by decide) rfl ?_
  refine mc_cx hmi 1 (F' := (10, [(2, .int ((((w * (Int32.ofInt 40503))).toUInt32 >>> (((Int32.ofInt 3)).toUInt32 &&& Int32.toUInt32 31)).toInt32 - (((w * (Int32.ofInt 40503))).toUInt32 >>> (((Int32.ofInt 3)).toUInt32 &&& Int32.toUInt32 31)).toInt32 / (Int32.ofInt 131072) * (Int32.ofInt 131072))), (0, .ref 542), (1, .int w)], [], h, n, 0, 0)) (by with_unfolding_all rfl) ?_
  refine mc_lvs (lv' := [(0, .ref 542), (1, .int w), (2, .int ((((w * (Int32.ofInt 40503))).toUInt32 >>> (((Int32.ofInt 3)).toUInt32 &&& Int32.toUInt32 31)).toInt32 - (((w * (Int32.ofInt 40503))).toUInt32 >>> (((Int32.ofInt 3)).toUInt32 &&& Int32.toUInt32 31)).toInt32 / (Int32.ofInt 131072) * (Int32.ofInt 131072)))]) (by simp) ?_
  have ea : ((((w * (Int32.ofInt 40503))).toUInt32 >>> (((Int32.ofInt 3)).toUInt32 &&& Int32.toUInt32 31)).toInt32 - (((w * (Int32.ofInt 40503))).toUInt32 >>> (((Int32.ofInt 3)).toUInt32 &&& Int32.toUInt32 31)).toInt32 / (Int32.ofInt 131072) * (Int32.ofInt 131072)).toInt = sd_h w.toInt := by rw [e149]; unfold sd_h; rw [Int32.ofInt_toInt]
  generalize ((((w * (Int32.ofInt 40503))).toUInt32 >>> (((Int32.ofInt 3)).toUInt32 &&& Int32.toUInt32 31)).toInt32 - (((w * (Int32.ofInt 40503))).toUInt32 >>> (((Int32.ofInt 3)).toUInt32 &&& Int32.toUInt32 31)).toInt32 / (Int32.ofInt 131072) * (Int32.ofInt 131072)) = a0 at ea ⊢
  refine sx_loop H S w (t0 := (if sd_h w.toInt ≤ (z : Int) then (z : Int) - sd_h w.toInt else (z : Int) + 131072 - sd_h w.toInt).toNat) ?_ (fun t a ht ha hz' hn => ?_) (if sd_h w.toInt ≤ (z : Int) then (z : Int) - sd_h w.toInt else (z : Int) + 131072 - sd_h w.toInt).toNat 0 a0 (Nat.zero_add _) (by rw [ea]; omega) (fun t' h' => absurd h' (Nat.not_lt_zero t'))
  · rw [show (sd_h w.toInt + (((if sd_h w.toInt ≤ (z : Int) then (z : Int) - sd_h w.toInt else (z : Int) + 131072 - sd_h w.toInt).toNat : Nat) : Int)) % 131072 = (z : Int) by split <;> omega]
    exact hz
  have ht2 : t < 131072 := by
    have : t ≤ (if sd_h w.toInt ≤ (z : Int) then (z : Int) - sd_h w.toInt else (z : Int) + 131072 - sd_h w.toInt).toNat := ht
    split at this <;> omega
  refine mc_cx hmi 1 (F' := (48, [(0, .ref 542), (1, .int w), (2, .int a)], [.ref 542], h, n, 0, 0)) (by with_unfolding_all rfl) ?_
  refine mc_getr hmi H (k := 542) (c := 568) (pc' := 51) rfl rfl rfl rfl rfl ?_
  refine mc_cx hmi 1 (F' := (52, [(0, .ref 542), (1, .int w), (2, .int a)], [.ref 542, .ref 568], h, n, 0, 0)) (by with_unfolding_all rfl) ?_
  refine mc_geti hmi H (k := 542) (j := 37) (pc' := 55) rfl rfl rfl rfl (fun y150 (e151 : y150.toInt = ab_ri h 542 37) r152 r153 => ?_)
  rw [e151] at r152 r153
  refine mc_cx hmi 1 (F' := (56, [(0, .ref 542), (1, .int w), (2, .int a)], [.int w, .int y150, .ref 568], h, n, 0, 0)) (by with_unfolding_all rfl) ?_
  have b154 := Int32.le_toInt (w)
  have b155 := Int32.toInt_lt (w)
  refine mc_iast hmi H (k := 568) (i := ab_ri h 542 37) (pc' := 57) rfl rfl rfl e151 (by omega) (by omega) (by rw [show (w).toInt = w.toInt from rfl]; omega) (by rw [show (w).toInt = w.toInt from rfl]; omega) rfl (fun h156 H157 w158 => ?_)
  have g1 := mc_ri w158
  have c1 : ab_ri h156 542 37 = ab_ri h 542 37 := by rw [g1, if_neg (fun q => absurd q.1 (by decide))]
  refine mc_cx hmi 2 (F' := (59, [(0, .ref 542), (1, .int w), (2, .int a)], [.ref 542, .ref 542], h156, n, 0, 0)) (by with_unfolding_all rfl) ?_
  refine mc_geti hmi H157 (k := 542) (j := 37) (pc' := 62) rfl rfl rfl rfl (fun y159 (e160 : y159.toInt = ab_ri h156 542 37) r161 r162 => ?_)
  rw [e160] at r161 r162
  refine mc_cx hmi 2 (F' := (64, [(0, .ref 542), (1, .int w), (2, .int a)], [.int (y159 + (Int32.ofInt 1)), .ref 542], h156, n, 0, 0)) (by with_unfolding_all rfl) ?_
  have e163 : (y159 + (Int32.ofInt 1)).toInt = ab_ri h156 542 37 + 1 := mc_add e160 (by decide) (by omega) (by omega)
  refine mc_puti hmi H157 (k := 542) (j := 37) (pc' := 67) rfl rfl rfl rfl (by rw [e163]; omega) (by rw [e163]; omega) rfl (fun h164 H165 w166 => ?_)
  have g2 := mc_ri w166
  have c2 : ab_ri h164 542 37 = ab_ri h156 542 37 + 1 := by rw [g2, if_pos ⟨rfl, rfl⟩]; omega
  refine mc_cx hmi 1 (F' := (68, [(0, .ref 542), (1, .int w), (2, .int a)], [.ref 542], h164, n, 0, 0)) (by with_unfolding_all rfl) ?_
  refine mc_getr hmi H165 (k := 542) (c := 569) (pc' := 71) rfl rfl rfl rfl rfl ?_
  refine mc_cx hmi 2 (F' := (73, [(0, .ref 542), (1, .int w), (2, .int a)], [.ref 542, .int a, .ref 569], h164, n, 0, 0)) (by with_unfolding_all rfl) ?_
  refine mc_geti hmi H165 (k := 542) (j := 37) (pc' := 76) rfl rfl rfl rfl (fun y167 (e168 : y167.toInt = ab_ri h164 542 37) r169 r170 => ?_)
  rw [e168] at r169 r170
  refine mc_iast hmi H165 (k := 569) (i := (sd_h w.toInt + (t : Int)) % 131072) (pc' := 77) rfl rfl rfl ha (by omega) (by omega) (by rw [e168]; omega) (by rw [e168]; omega) rfl (fun h171 H172 w173 => ?_)
  have g3 := mc_ri w173
  have eS : ab_ri h171 542 37 = ab_ri h 542 37 + 1 := by rw [g3, if_neg (fun q => absurd q.1 (by decide))]; omega
  have eN : nz (ab_ri h171 569) 131072 ≤ nz (ab_ri h 569) 131072 + 1 := by
    have := nz_set (f := ab_ri h 569) (g := ab_ri h171 569) (a := (sd_h w.toInt + (t : Int)) % 131072) (fun i hi => by rw [g3, if_neg (fun q => hi q.2), g2, if_neg (fun q => absurd q.1 (by decide)), g1, if_neg (fun q => absurd q.1 (by decide))]) 131072
    split at this <;> omega
  refine mc_ret hmi rfl rfl rfl ⟨rfl, rfl, ⟨H172, by omega, by omega, by omega, fun k i k1 k2 k3 => ?_⟩, m + 1, SD_put S ht2 hz' hn (by omega) (fun i => ?_) (fun i => ?_)⟩
  · rw [w173, if_neg (fun q => k2 q.1), w166, if_neg (fun q => k3 q.1 q.2), w158, if_neg (fun q => k1 q.1)]
  · rw [g3, if_neg (fun q => absurd q.1 (by decide)), g2, if_neg (fun q => absurd q.1 (by decide)), g1, hs0]
    by_cases q : i = (m : Int)
    · rw [if_pos ⟨rfl, q⟩, if_pos q]
    · rw [if_neg (fun z => q z.2), if_neg q]
  · rw [g3]
    by_cases q : i = (sd_h w.toInt + (t : Int)) % 131072
    · rw [if_pos ⟨rfl, q⟩, if_pos q]; omega
    · rw [if_neg (fun z => q z.2), if_neg q, g2, if_neg (fun z => absurd z.1 (by decide)), g1, if_neg (fun z => absurd z.1 (by decide))]
set_option maxRecDepth 100000 in
theorem tx_loop {l : Launch} {G : ax_T} {d : Nat} {h : ax_H} {n : Nat} (H0 : mc_HW h n) (s : Int32) {p : Nat} (hp : ab_ri h 542 14 = (p : Int)) {F : Nat → Nat} (hF : ∀ j : Nat, j < p → ab_ri h 571 (j : Int) = (F j : Int)) (hF1 : ∀ j, j < p → F j < 14) {T : Nat → Nat → Prop} : ∀ (c j : Nat) (h' : ax_H) (i : Int32), j + c = p → i.toInt = (j : Int) → mc_HW h' n → (∀ (k' : Nat) (i' : Int), k' ≠ 570 → ab_rd h' k' i' = ab_rd h k' i') → (∀ t : Nat, t < p → sf (fun y => T t y ∨ t < j ∧ y = F t) (ab_ri h' 570 (t : Int))) → mc_R l G mt_X11_take d (fun r' h' n' => n' = n ∧ r' = none ∧ mc_HW h' n ∧ (∀ (k' : Nat) (i' : Int), k' ≠ 570 → ab_rd h' k' i' = ab_rd h k' i') ∧ (∀ t : Nat, t < p → sf (fun y => T t y ∨ t < p ∧ y = F t) (ab_ri h' 570 (t : Int)))) (16, [(0, .ref 542), (1, .int s), (2, .int i)], [], h', n, 0, 0) := by
  have hmi : mt_X11_take ∈ mt_prog := List.mem_of_getElem? mi_X11_take
  have hp20 : 0 ≤ ab_ri h 542 14 ∧ ab_ri h 542 14 ≤ 20 := mc_frng H0 (k := 542) (j := 14) (ci := 11) rfl rfl
  intro c
  induction c with
  | zero =>
    intro j h' i hj hi H' hfr hT
    have hpl : ab_ri h' 542 14 = (p : Int) := (ab_ri_of (hfr 542 14 (by decide))).trans hp
    have hfl : ∀ t : Nat, t < p → ab_ri h' 571 (t : Int) = (F t : Int) := fun t ht => (ab_ri_of (hfr 571 (t : Int) (by decide))).trans (hF t ht)
    refine mc_cx hmi 2 (F' := (18, [(0, .ref 542), (1, .int s), (2, .int i)], [.ref 542, .int i], h', n, 0, 0)) (by with_unfolding_all rfl) ?_
    refine mc_geti hmi H' (k := 542) (j := 14) (pc' := 21) rfl rfl rfl rfl (fun y174 (e175 : y174.toInt = ab_ri h' 542 14) r176 r177 => ?_)
    rw [e175] at r176 r177
    rw [hpl] at e175
    refine mc_ci hmi (c := .ge) (tg := 81) (pc' := 24) rfl rfl rfl hi e175 (fun (q178 : (p : Int) ≤ (j : Int)) => ?_) (fun (q178 : (j : Int) < (p : Int)) => ?_)
    · obtain rfl : j = p := by omega
      exact mc_ret hmi rfl rfl rfl ⟨rfl, rfl, H', hfr, hT⟩
    · exact absurd q178 (by omega)
  | succ c ih =>
    intro j h' i hj hi H' hfr hT
    have hpl : ab_ri h' 542 14 = (p : Int) := (ab_ri_of (hfr 542 14 (by decide))).trans hp
    have hfl : ∀ t : Nat, t < p → ab_ri h' 571 (t : Int) = (F t : Int) := fun t ht => (ab_ri_of (hfr 571 (t : Int) (by decide))).trans (hF t ht)
    refine mc_cx hmi 2 (F' := (18, [(0, .ref 542), (1, .int s), (2, .int i)], [.ref 542, .int i], h', n, 0, 0)) (by with_unfolding_all rfl) ?_
    refine mc_geti hmi H' (k := 542) (j := 14) (pc' := 21) rfl rfl rfl rfl (fun y179 (e180 : y179.toInt = ab_ri h' 542 14) r181 r182 => ?_)
    rw [e180] at r181 r182
    rw [hpl] at e180
    refine mc_ci hmi (c := .ge) (tg := 81) (pc' := 24) rfl rfl rfl hi e180 (fun (q183 : (p : Int) ≤ (j : Int)) => ?_) (fun (q183 : (j : Int) < (p : Int)) => ?_)
    · exact absurd q183 (by omega)
    · have hFj := hF1 j (by omega)
      have hTj := hT j (by omega)
      refine mc_cx hmi 1 (F' := (25, [(0, .ref 542), (1, .int s), (2, .int i)], [.ref 542], h', n, 0, 0)) (by with_unfolding_all rfl) ?_
      refine mc_getr hmi H' (k := 542) (c := 570) (pc' := 28) rfl rfl rfl rfl rfl ?_
      refine mc_cx hmi 2 (F' := (30, [(0, .ref 542), (1, .int s), (2, .int i)], [.ref 542, .int i, .ref 570], h', n, 0, 0)) (by with_unfolding_all rfl) ?_
      refine mc_getr hmi H' (k := 542) (c := 570) (pc' := 33) rfl rfl rfl rfl rfl ?_
      refine mc_cx hmi 1 (F' := (34, [(0, .ref 542), (1, .int s), (2, .int i)], [.int i, .ref 570, .int i, .ref 570], h', n, 0, 0)) (by with_unfolding_all rfl) ?_
      refine mc_iald hmi H' (k := 570) (i := (j : Int)) (pc' := 35) rfl rfl rfl hi (by omega) (by omega) rfl (fun y184 e185 r186 r187 => ?_)
      rw [e185] at r186 r187
      have key : ∀ u : Int32, u.toInt = (if ab_ri h' 570 (j : Int) = -1 then (F j : Int) else if ab_ri h' 570 (j : Int) = (F j : Int) then (F j : Int) else 14) → mc_R l G mt_X11_take d (fun r' h' n' => n' = n ∧ r' = none ∧ mc_HW h' n ∧ (∀ (k' : Nat) (i' : Int), k' ≠ 570 → ab_rd h' k' i' = ab_rd h k' i') ∧ (∀ t : Nat, t < p → sf (fun y => T t y ∨ t < p ∧ y = F t) (ab_ri h' 570 (t : Int)))) (74, [(0, .ref 542), (1, .int s), (2, .int i)], [.int u, .int i, .ref 570], h', n, 0, 0) := by
        intro u hu
        have hu1 : 0 ≤ u.toInt ∧ u.toInt ≤ 14 := by rw [hu]; split <;> (try split) <;> omega
        have b188 := Int32.le_toInt (u)
        have b189 := Int32.toInt_lt (u)
        refine mc_iast hmi H' (k := 570) (i := (j : Int)) (pc' := 75) rfl rfl rfl hi (by omega) (by omega) (by rw [show (u).toInt = u.toInt from rfl]; omega) (by rw [show (u).toInt = u.toInt from rfl]; omega) rfl (fun h190 H191 w192 => ?_)
        refine mc_cx hmi 2 (F' := (16, [(2, .int (i + Int32.ofInt 1)), (0, .ref 542), (1, .int s)], [], h190, n, 0, 0)) (by with_unfolding_all rfl) ?_
        have e193 : (i + Int32.ofInt 1).toInt = (j : Int) + 1 := mc_add hi (by decide) (by omega) (by omega)
        refine mc_lvs (lv' := [(0, .ref 542), (1, .int s), (2, .int (i + Int32.ofInt 1))]) (by simp) ?_
        refine ih (j + 1) h190 (i + Int32.ofInt 1) (by omega) (by rw [e193]; omega) H191 (fun k' i' hk => by rw [w192, if_neg (fun q => hk q.1)]; exact hfr k' i' hk) (fun t ht => ?_)
        rw [mc_ri w192]
        by_cases q : t = j
        · subst q
          rw [if_pos ⟨rfl, rfl⟩, hu]
          exact sf_ex (fun y => ⟨fun z => z.elim (fun v => v.elim Or.inl (fun u => absurd u.1 (Nat.lt_irrefl t))) (fun v => Or.inr ⟨Nat.lt_succ_self t, v⟩), fun z => z.elim (fun v => Or.inl (Or.inl v)) (fun v => Or.inr v.2)⟩) (sf_1 hFj hTj)
        · rw [if_neg (fun z => q (by have := z.2; omega))]
          exact sf_ex (fun y => or_congr Iff.rfl ⟨fun z => ⟨by omega, z.2⟩, fun z => ⟨by omega, z.2⟩⟩) (hT t ht)
      refine mc_cx hmi 1 (F' := (36, [(0, .ref 542), (1, .int s), (2, .int i)], [.int (Int32.ofInt (-1)), .int y184, .int i, .ref 570], h', n, 0, 0)) (by with_unfolding_all rfl) ?_
      refine mc_ci hmi (c := .ne) (tg := 48) (pc' := 39) rfl rfl rfl e185 (by decide) (fun (q194 : ab_ri h' 570 ((j : Int)) ≠ (-1)) => ?_) (fun (q194 : ab_ri h' 570 ((j : Int)) = (-1)) => ?_)
      · refine mc_cx hmi 1 (F' := (49, [(0, .ref 542), (1, .int s), (2, .int i)], [.ref 542, .int i, .ref 570], h', n, 0, 0)) (by with_unfolding_all rfl) ?_
        refine mc_getr hmi H' (k := 542) (c := 570) (pc' := 52) rfl rfl rfl rfl rfl ?_
        refine mc_cx hmi 1 (F' := (53, [(0, .ref 542), (1, .int s), (2, .int i)], [.int i, .ref 570, .int i, .ref 570], h', n, 0, 0)) (by with_unfolding_all rfl) ?_
        refine mc_iald hmi H' (k := 570) (i := (j : Int)) (pc' := 54) rfl rfl rfl hi (by omega) (by omega) rfl (fun y199 e200 r201 r202 => ?_)
        rw [e200] at r201 r202
        refine mc_cx hmi 1 (F' := (55, [(0, .ref 542), (1, .int s), (2, .int i)], [.ref 542, .int y199, .int i, .ref 570], h', n, 0, 0)) (by with_unfolding_all rfl) ?_
        refine mc_getr hmi H' (k := 542) (c := 571) (pc' := 58) rfl rfl rfl rfl rfl ?_
        refine mc_cx hmi 1 (F' := (59, [(0, .ref 542), (1, .int s), (2, .int i)], [.int i, .ref 571, .int y199, .int i, .ref 570], h', n, 0, 0)) (by with_unfolding_all rfl) ?_
        refine mc_iald hmi H' (k := 571) (i := (j : Int)) (pc' := 60) rfl rfl rfl hi (by omega) (by omega) rfl (fun y203 e204 r205 r206 => ?_)
        rw [e204] at r205 r206
        rw [hfl j (by omega)] at e204
        refine mc_ci hmi (c := .ne) (tg := 72) (pc' := 63) rfl rfl rfl e200 e204 (fun (q207 : ab_ri h' 570 ((j : Int)) ≠ (F j : Int)) => ?_) (fun (q207 : ab_ri h' 570 ((j : Int)) = (F j : Int)) => ?_)
        · refine mc_cx hmi 1 (F' := (74, [(0, .ref 542), (1, .int s), (2, .int i)], [.int (Int8.ofInt 14).toInt32, .int i, .ref 570], h', n, 0, 0)) (by with_unfolding_all rfl) ?_
          exact key _ (by rw [if_neg q194, if_neg q207]; decide)
        · refine mc_cx hmi 1 (F' := (64, [(0, .ref 542), (1, .int s), (2, .int i)], [.ref 542, .int i, .ref 570], h', n, 0, 0)) (by with_unfolding_all rfl) ?_
          refine mc_getr hmi H' (k := 542) (c := 571) (pc' := 67) rfl rfl rfl rfl rfl ?_
          refine mc_cx hmi 1 (F' := (68, [(0, .ref 542), (1, .int s), (2, .int i)], [.int i, .ref 571, .int i, .ref 570], h', n, 0, 0)) (by with_unfolding_all rfl) ?_
          refine mc_iald hmi H' (k := 571) (i := (j : Int)) (pc' := 69) rfl rfl rfl hi (by omega) (by omega) rfl (fun y208 e209 r210 r211 => ?_)
          rw [e209] at r210 r211
          rw [hfl j (by omega)] at e209
          refine mc_cx hmi 1 (F' := (74, [(0, .ref 542), (1, .int s), (2, .int i)], [.int y208, .int i, .ref 570], h', n, 0, 0)) (by with_unfolding_all rfl) ?_
          exact key _ (by rw [e209, if_neg q194, if_pos q207])
      · refine mc_cx hmi 1 (F' := (40, [(0, .ref 542), (1, .int s), (2, .int i)], [.ref 542, .int i, .ref 570], h', n, 0, 0)) (by with_unfolding_all rfl) ?_
        refine mc_getr hmi H' (k := 542) (c := 571) (pc' := 43) rfl rfl rfl rfl rfl ?_
        refine mc_cx hmi 1 (F' := (44, [(0, .ref 542), (1, .int s), (2, .int i)], [.int i, .ref 571, .int i, .ref 570], h', n, 0, 0)) (by with_unfolding_all rfl) ?_
        refine mc_iald hmi H' (k := 571) (i := (j : Int)) (pc' := 45) rfl rfl rfl hi (by omega) (by omega) rfl (fun y195 e196 r197 r198 => ?_)
        rw [e196] at r197 r198
        rw [hfl j (by omega)] at e196
        refine mc_cx hmi 1 (F' := (74, [(0, .ref 542), (1, .int s), (2, .int i)], [.int y195, .int i, .ref 570], h', n, 0, 0)) (by with_unfolding_all rfl) ?_
        exact key _ (by rw [e196, if_pos q194])
/-- the list of worths and the signs that all share, of the fillings D -/
def RS (h : ax_H) (p : Nat) (D : fl_D) : Prop := (∃ m : Nat, SD h m (fl_W D)) ∧ TS h p (fl_T D)
theorem RS_ex {h : ax_H} {p : Nat} {D D' : fl_D} (e : ∀ s g, D s g ↔ D' s g) (S : RS h p D) : RS h p D' := by
  obtain ⟨⟨m, a⟩, b⟩ := S
  refine ⟨⟨m, SD_ex (fun v => ?_) a⟩, fun i hi => sf_ex (fun x => ?_) (b i hi)⟩
  · exact ⟨fun ⟨s, g, z, q⟩ => ⟨s, g, (e s g).mp z, q⟩, fun ⟨s, g, z, q⟩ => ⟨s, g, (e s g).mpr z, q⟩⟩
  · exact ⟨fun ⟨s, g, z, q⟩ => ⟨s, g, (e s g).mp z, q⟩, fun ⟨s, g, z, q⟩ => ⟨s, g, (e s g).mpr z, q⟩⟩
theorem RS_fr {h h' : ax_H} {p : Nat} {D : fl_D} (e : ∀ (k' : Nat) (i' : Int), k' = 568 ∨ k' = 569 ∨ k' = 570 ∨ k' = 542 ∧ i' = 37 → ab_rd h' k' i' = ab_rd h k' i') (S : RS h p D) : RS h' p D := by
  obtain ⟨⟨m, a⟩, b⟩ := S
  refine ⟨⟨m, SD_fr (ab_ri_of (e 542 37 (Or.inr (Or.inr (Or.inr ⟨rfl, rfl⟩))))) (fun i => ab_ri_of (e 568 i (Or.inl rfl))) (fun i => ab_ri_of (e 569 i (Or.inr (Or.inl rfl)))) a⟩, fun i hi => ?_⟩
  rw [ab_ri_of (e 570 (i : Int) (Or.inr (Or.inr (Or.inl rfl))))]
  exact b i hi
set_option maxRecDepth 100000 in
theorem tx_take {l : Launch} {G : ax_T} {d : Nat} {h : ax_H} {n : Nat} (hd : 3 ≤ d) (H : mc_HW h n) {s : Int32} {size : Nat} (hs : s.toInt = (size : Int)) (hs1 : size ≤ 21) {p : Nat} (hp : ab_ri h 542 14 = (p : Int)) (hps : p ≤ size) {F : Nat → Nat} (hF : ∀ j : Nat, j < size → ab_ri h 571 (j : Int) = (F j : Int)) (hF1 : ∀ j, j < size → F j < 14) {D : fl_D} (S : RS h p D) (hs2 : ab_ri h 542 37 ≤ 39999) (hnz : (nz (ab_ri h 569) 131072 : Int) ≤ ab_ri h 542 37) : mc_M l G d mt_X11_take [.ref 542, .int s] h n (fun r' h' n' => n' = n ∧ r' = none ∧ (mc_HW h' n ∧ ab_ri h 542 37 ≤ ab_ri h' 542 37 ∧ ab_ri h' 542 37 ≤ ab_ri h 542 37 + 1 ∧ (nz (ab_ri h' 569) 131072 : Int) ≤ nz (ab_ri h 569) 131072 + (ab_ri h' 542 37 - ab_ri h 542 37) ∧ (∀ (k' : Nat) (i' : Int), k' ≠ 568 → k' ≠ 569 → k' ≠ 570 → (k' = 542 → i' ≠ 37) → ab_rd h' k' i' = ab_rd h k' i')) ∧ RS h' p (fl_1 D size F)) := by
  obtain ⟨d, rfl⟩ : ∃ e, d = e + 1 := ⟨d - 1, by omega⟩
  have hmi : mt_X11_take ∈ mt_prog := List.mem_of_getElem? mi_X11_take
  obtain ⟨⟨m, SM⟩, ST⟩ := S
  refine mc_to hmi rfl ?_
  show mc_R _ _ _ _ _ (0, [(0, .ref 542), (1, .int s)], [], h, n, 0, 0)
  refine mc_cx hmi 3 (F' := (3, [(0, .ref 542), (1, .int s)], [.ref 542, .ref 542, .ref 542], h, n, 0, 0)) (by with_unfolding_all rfl) ?_
  refine mc_getr hmi H (k := 542) (c := 571) (pc' := 6) rfl rfl rfl rfl rfl ?_
  refine mc_cx hmi 2 (F' := (8, [(0, .ref 542), (1, .int s)], [.int s, .int (Int32.ofInt 0), .ref 571, .ref 542, .ref 542], h, n, 0, 0)) (by with_unfolding_all rfl) ?_
  refine mc_callP hmi (en := (8, .invokevirtual 149, 3, (3, 166, 11, 0), [1326, 79, 1324])) rfl (q := (mt_X11_worthOf, [.ref 542, .ref 571, .int (Int32.ofInt 0), .int s], [.ref 542])) (mc_inv H (as := [.ref 571, .int (Int32.ofInt 0), .int s]) (rest := [.ref 542]) rfl (by with_unfolding_all rfl) rfl rfl rfl) ⟨rfl, rfl⟩ (pc' := 11) rfl (wx_worthOf (by omega) H (f := (Int32.ofInt 0)) (by decide) hs hs1 hF hF1) (fun y212 e213 => ?_)
  refine mc_call hmi (en := (11, .invokevirtual 269, 3, (3, 204, 11, 0), [1510, 104, 1508])) rfl (q := (mt_X11_say, [.ref 542, .int y212], [])) (mc_inv H (as := [.int y212]) (rest := []) rfl (by with_unfolding_all rfl) rfl rfl rfl) ⟨rfl, rfl⟩ (pc' := 14) rfl (mc_mono (sx_say (by omega) H SM y212 hs2 hnz) ?_)
  intro r1 h1 n1 P1
  obtain ⟨e1, e2, S1, m', SM'⟩ := P1
  rw [e1, e2]
  rw [e213] at SM'
  show mc_R _ _ _ _ _ (14, [(0, .ref 542), (1, .int s)], [], h1, n, 0, 0)
  refine mc_cx hmi 2 (F' := (16, [(2, .int (Int32.ofInt 0)), (0, .ref 542), (1, .int s)], [], h1, n, 0, 0)) (by with_unfolding_all rfl) ?_
  refine mc_lvs (lv' := [(0, .ref 542), (1, .int s), (2, .int (Int32.ofInt 0))]) (by simp) ?_
  have q1 : ∀ (k' : Nat) (i' : Int), k' ≠ 568 → k' ≠ 569 → (k' = 542 → i' ≠ 37) → ab_rd h1 k' i' = ab_rd h k' i' := S1.2.2.2.2
  have ep : ab_ri h1 542 14 = (p : Int) := (ab_ri_of (q1 542 14 (by decide) (by decide) (by omega))).trans hp
  have hst : ∀ t : Nat, t < p → sf (fun y => fl_T D t y ∨ t < 0 ∧ y = F t) (ab_ri h1 570 (t : Int)) := fun t ht => by
    rw [ab_ri_of (q1 570 (t : Int) (by decide) (by decide) (fun z => absurd z (by decide)))]
    exact sf_ex (fun y => ⟨Or.inl, fun z => z.elim id (fun u => absurd u.1 (Nat.not_lt_zero t))⟩) (ST t ht)
  obtain ⟨o, k1, k2, k3, k4, k5, k6, k7⟩ := tx_loop (l := l) (G := G) (d := d) (h := h1) S1.1 s ep (F := F) (fun j hj => (ab_ri_of (q1 571 (j : Int) (by decide) (by decide) (fun z => absurd z (by decide)))).trans (hF j (by omega))) (fun j hj => hF1 j (by omega)) (T := fl_T D) p 0 h1 (Int32.ofInt 0) (by omega) (by decide) S1.1 (fun _ _ _ => rfl) hst
  · have es : ab_ri o.2.1 542 37 = ab_ri h1 542 37 := ab_ri_of (k6 542 37 (by decide))
    have en : nz (ab_ri o.2.1 569) 131072 = nz (ab_ri h1 569) 131072 := nz_of _ (fun i _ => ab_ri_of (k6 569 i (by decide)))
    refine ⟨o, k1, k2, k3, k4, ⟨k5, by rw [es]; exact S1.2.1, by rw [es]; exact S1.2.2.1, by rw [es, en]; exact S1.2.2.2.1, fun k' i' a b c e => ?_⟩, ⟨m', SD_ex (fun v => (fl_W1 v).symm) (SD_fr es (fun i => ab_ri_of (k6 568 i (by decide))) (fun i => ab_ri_of (k6 569 i (by decide))) SM')⟩, fun i hi => ?_⟩
    · rw [k6 k' i' c]; exact q1 k' i' a b e
    · exact sf_ex (fun x => Iff.trans ⟨fun z => z.elim Or.inl (fun u => Or.inr u.2), fun z => z.elim Or.inl (fun u => Or.inr ⟨hi, u⟩)⟩ (fl_T1 (by omega) x).symm) (k7 i hi)
end
section
/-! ===== fillings by their order, in the reference (by hand) ===== -/
/-- a sign that may stand at a place of a stone of p places -/
def fl_ok (p : Nat) (sg : Nat → Nat) (i x : Nat) : Prop := x < 14 ∧ (p ≤ i ∨ sg i = 14 ∨ sg i = x)
/-- a filling by a custom: s signs -/
def fl_A (K : df_K) (p : Nat) (sg : Nat → Nat) (s : Nat) (g : Nat → Nat) : Prop := (∀ i, i < s → fl_ok p sg i (g i)) ∧ ∃ S, df_rn K g s = some S ∧ df_wh K S
theorem df_cg {K : df_K} {f g : Nat → Nat} : ∀ j : Nat, (∀ i, i < j → f i = g i) → df_rn K f j = df_rn K g j
  | 0, _ => rfl
  | j + 1, e => by
    show (df_rn K f j).bind (fun S => df_af K S (f j)) = (df_rn K g j).bind (fun S => df_af K S (g j))
    rw [df_cg j (fun i hi => e i (by omega)), e j (by omega)]
theorem fl_A_cg {K : df_K} {p : Nat} {sg : Nat → Nat} {s : Nat} {f g : Nat → Nat} (e : ∀ i, i < s → f i = g i) (a : fl_A K p sg s f) : fl_A K p sg s g := by
  refine ⟨fun i hi => by rw [← e i hi]; exact a.1 i hi, ?_⟩
  rw [← df_cg s e]
  exact a.2
/-- g stands ahead of what is filled in, up to place j -/
def fl_lx (q : Nat → Nat) (j : Nat) (g : Nat → Nat) : Prop := ∃ i, i ≤ j ∧ (∀ t, t < i → g t = q t) ∧ g i < q i
def fl_DD (D : fl_D) (K : df_K) (p : Nat) (sg : Nat → Nat) (N : Nat) (q : Nat → Nat) (j : Nat) : fl_D := fun s g => D s g ∨ s = N ∧ fl_A K p sg N g ∧ fl_lx q j g
section FX
variable {D : fl_D} {K : df_K} {p : Nat} {sg : Nat → Nat} {N : Nat} {q q' : Nat → Nat} {j : Nat}
theorem fl_DD_ex (e : ∀ g, fl_A K p sg N g → (fl_lx q j g ↔ fl_lx q' j g)) (s : Nat) (g : Nat → Nat) : fl_DD D K p sg N q j s g ↔ fl_DD D K p sg N q' j s g :=
  or_congr Iff.rfl ⟨fun z => ⟨z.1, z.2.1, (e g z.2.1).mp z.2.2⟩, fun z => ⟨z.1, z.2.1, (e g z.2.1).mpr z.2.2⟩⟩
/-- what the next sign at a place adds -/
theorem fl_lx_adv (hj : j < N) (h13 : q j < 14) (hok : fl_ok p sg j (q j)) (he : ∀ i, i < j → q' i = q i) (hv : q' j = if p ≤ j ∨ sg j = 14 then q j + 1 else 14) {g : Nat → Nat} (a : fl_A K p sg N g) : fl_lx q' j g ↔ fl_lx q j g ∨ ∀ i, i ≤ j → g i = q i := by
  have ag := a.1 j hj
  unfold fl_ok at hok ag
  constructor
  · rintro ⟨i, h1, h2, h3⟩
    by_cases e : i = j
    · subst e
      have h2' : ∀ t, t < i → g t = q t := fun t ht => (h2 t ht).trans (he t ht)
      rw [hv] at h3
      by_cases u : g i = q i
      · refine Or.inr (fun t ht => ?_)
        by_cases et : t = i
        · rw [et]; exact u
        · exact h2' t (by omega)
      · refine Or.inl ⟨i, Nat.le_refl i, h2', ?_⟩
        split at h3 <;> omega
    · exact Or.inl ⟨i, h1, fun t ht => (h2 t ht).trans (he t (by omega)), by rw [← he i (by omega)]; exact h3⟩
  · rintro (⟨i, h1, h2, h3⟩ | z)
    · by_cases e : i = j
      · subst e
        refine ⟨i, Nat.le_refl i, fun t ht => (h2 t ht).trans (he t ht).symm, ?_⟩
        rw [hv]
        split <;> omega
      · exact ⟨i, h1, fun t ht => (h2 t ht).trans (he t (by omega)).symm, by rw [he i (by omega)]; exact h3⟩
    · refine ⟨j, Nat.le_refl j, fun t ht => (z t (by omega)).trans (he t ht).symm, ?_⟩
      have := z j (Nat.le_refl j)
      rw [hv]
      split <;> omega
theorem fl_adv0 (hj : j < N) (h13 : q j < 14) (hok : fl_ok p sg j (q j)) (he : ∀ i, i < j → q' i = q i) (hv : q' j = if p ≤ j ∨ sg j = 14 then q j + 1 else 14) (hn : ∀ g, fl_A K p sg N g → ¬ ∀ i, i ≤ j → g i = q i) (s : Nat) (g : Nat → Nat) : fl_DD D K p sg N q j s g ↔ fl_DD D K p sg N q' j s g :=
  fl_DD_ex (fun g a => ⟨fun z => (fl_lx_adv hj h13 hok he hv a).mpr (Or.inl z), fun z => ((fl_lx_adv hj h13 hok he hv a).mp z).elim id (fun u => absurd u (hn g a))⟩) s g
theorem fl_adv1 (hj : j + 1 = N) (h13 : q j < 14) (hok : fl_ok p sg j (q j)) (he : ∀ i, i < j → q' i = q i) (hv : q' j = if p ≤ j ∨ sg j = 14 then q j + 1 else 14) (hq : fl_A K p sg N q) (s : Nat) (g : Nat → Nat) : fl_1 (fl_DD D K p sg N q j) N q s g ↔ fl_DD D K p sg N q' j s g := by
  constructor
  · rintro ((z | ⟨rfl, a, z⟩) | ⟨rfl, z⟩)
    · exact Or.inl z
    · exact Or.inr ⟨rfl, a, (fl_lx_adv (by omega) h13 hok he hv a).mpr (Or.inl z)⟩
    · have a : fl_A K p sg s g := fl_A_cg (fun i hi => (z i hi).symm) hq
      exact Or.inr ⟨rfl, a, (fl_lx_adv (by omega) h13 hok he hv a).mpr (Or.inr (fun i hi => z i (by omega)))⟩
  · rintro (z | ⟨rfl, a, z⟩)
    · exact Or.inl (Or.inl z)
    · rcases (fl_lx_adv (by omega) h13 hok he hv a).mp z with u | u
      · exact Or.inl (Or.inr ⟨rfl, a, u⟩)
      · exact Or.inr ⟨rfl, fun i hi => u i (by omega)⟩
theorem fl_pop (hj : j + 1 < N) (h14 : q (j + 1) = 14) (h13 : q j < 14) (hok : fl_ok p sg j (q j)) (he : ∀ i, i < j → q' i = q i) (hv : q' j = if p ≤ j ∨ sg j = 14 then q j + 1 else 14) (s : Nat) (g : Nat → Nat) : fl_DD D K p sg N q (j + 1) s g ↔ fl_DD D K p sg N q' j s g := by
  refine or_congr Iff.rfl ⟨fun ⟨z1, a, i, h1, h2, h3⟩ => ⟨z1, a, ?_⟩, fun ⟨z1, a, z⟩ => ⟨z1, a, ?_⟩⟩
  · refine (fl_lx_adv (by omega) h13 hok he hv a).mpr ?_
    by_cases e : i = j + 1
    · exact Or.inr (fun t ht => h2 t (by omega))
    · exact Or.inl ⟨i, by omega, h2, h3⟩
  · rcases (fl_lx_adv (by omega) h13 hok he hv a).mp z with ⟨i, h1, h2, h3⟩ | u
    · exact ⟨i, by omega, h2, h3⟩
    · refine ⟨j + 1, Nat.le_refl _, fun t ht => u t (by omega), ?_⟩
      rw [h14]
      exact (a.1 (j + 1) hj).1
theorem fl_push (hj : j + 1 < N) (he : ∀ i, i ≤ j → q' i = q i) (hv : q' (j + 1) = if p ≤ j + 1 ∨ sg (j + 1) = 14 then 0 else sg (j + 1)) (s : Nat) (g : Nat → Nat) : fl_DD D K p sg N q j s g ↔ fl_DD D K p sg N q' (j + 1) s g := by
  refine or_congr Iff.rfl ⟨fun ⟨z1, a, i, h1, h2, h3⟩ => ⟨z1, a, i, by omega, fun t ht => (h2 t ht).trans (he t (by omega)).symm, by rw [he i h1]; exact h3⟩, fun ⟨z1, a, i, h1, h2, h3⟩ => ⟨z1, a, ?_⟩⟩
  by_cases e : i = j + 1
  · subst e
    have ag := a.1 (j + 1) hj
    unfold fl_ok at ag
    rw [hv] at h3
    exfalso
    split at h3 <;> omega
  · exact ⟨i, by omega, fun t ht => (h2 t ht).trans (he t (by omega)), by rw [← he i (by omega)]; exact h3⟩
theorem fl_end (hN : 0 < N) (h14 : q 0 = 14) (s : Nat) (g : Nat → Nat) : fl_DD D K p sg N q 0 s g ↔ D s g ∨ s = N ∧ fl_A K p sg N g :=
  or_congr Iff.rfl ⟨fun z => ⟨z.1, z.2.1⟩, fun z => ⟨z.1, z.2, 0, Nat.le_refl 0, fun t ht => absurd ht (Nat.not_lt_zero t), by rw [h14]; exact (z.2.1 0 hN).1⟩⟩
theorem fl_start (hN : 0 < N) (hv : q 0 = if p ≤ 0 ∨ sg 0 = 14 then 0 else sg 0) (s : Nat) (g : Nat → Nat) : D s g ↔ fl_DD D K p sg N q 0 s g := by
  refine ⟨Or.inl, fun z => z.elim id (fun ⟨z1, a, i, h1, h2, h3⟩ => ?_)⟩
  obtain rfl : i = 0 := by omega
  have ag := a.1 0 hN
  unfold fl_ok at ag
  rw [hv] at h3
  exfalso
  split at h3 <;> omega
end FX
/-- behind a sign 0: nothing is below, or it is open -/
theorem zl_1 {K : df_K} {S S' : df_T} (h : df_af K S 0 = some S') : S'.2.2.2 = 0 ∧ S'.1 ≤ 1 ∨ S'.2.2.2 ≠ 0 ∧ S'.2.2.1 = 0 := by
  have lv : ∀ {b t o : Nat} {T : df_T}, o ≠ 0 → df_lv K b t 0 o = some T → T.2.2.2 = 0 ∧ T.1 ≤ 1 ∨ T.2.2.2 ≠ 0 ∧ T.2.2.1 = 0 := by
    intro b t o T ho hT
    unfold df_lv at hT
    split at hT
    · cases hT
    · split at hT
      · cases hT; exact Or.inr ⟨ho, rfl⟩
      · cases hT
  unfold df_af at h
  split at h
  · exact lv (by decide) h
  · split at h
    · rename_i q
      exact absurd q (Nat.not_lt_zero _)
    · split at h
      · rename_i q1 q2 q
        split at h
        · exact lv (by decide) h
        · unfold df_cl at h
          split at h
          · cases h
            exact Or.inl ⟨rfl, Nat.le_of_eq rfl⟩
          · cases h
      · obtain ⟨C, -, h2⟩ := Option.bind_eq_some_iff.mp h
        exact lv (by decide) h2
/-- a greater sign behind it closes all -/
theorem zl_2 {K : df_K} {S S' : df_T} {x : Nat} (hx : 0 < x) (hs : S.2.2.2 = 0 ∧ S.1 ≤ 1 ∨ S.2.2.2 ≠ 0 ∧ S.2.2.1 = 0) (h : df_af K S x = some S') : S' = (0, 0, 0, 0) := by
  unfold df_af at h
  rcases hs with ⟨s1, s2⟩ | ⟨s1, s2⟩
  · rw [if_pos s1] at h
    unfold df_lv at h
    rw [if_pos (by omega)] at h
    cases h
  · rw [if_neg s1, s2, if_pos hx] at h
    split at h
    · cases h; rfl
    · cases h
theorem zl_3 {K : df_K} {x : Nat} : df_af K (0, 0, 0, 0) x = none := by
  unfold df_af
  rw [if_pos rfl]
  unfold df_lv
  rw [if_pos (Nat.zero_le x)]
/-- a first sign that is followed by another one has no third behind it -/
theorem zk {K : df_K} {f : Nat → Nat} {s : Nat} {S : df_T} (h : df_rn K f s = some S) {p q : Nat} (h1 : p < q) (h2 : q + 1 < s) (h0 : f p = 0) : f q = 0 := by
  have key : ∀ c q : Nat, q = p + 1 + c → q + 1 < s → f q = 0 := by
    intro c
    induction c with
    | zero =>
      intro q hq hqs
      obtain ⟨S2, e2⟩ := df_al (K := K) (f := f) (j := q + 2) (s - (q + 2)) (S := S) (by rw [show q + 2 + (s - (q + 2)) = s by omega]; exact h)
      obtain ⟨T1, a1, b1⟩ := Option.bind_eq_some_iff.mp (show (df_rn K f (q + 1)).bind (fun S => df_af K S (f (q + 1))) = some S2 from e2)
      obtain ⟨T0, a0, b0⟩ := Option.bind_eq_some_iff.mp (show (df_rn K f q).bind (fun S => df_af K S (f q)) = some T1 from a1)
      rw [hq] at a0
      obtain ⟨U, -, bu⟩ := Option.bind_eq_some_iff.mp (show (df_rn K f p).bind (fun S => df_af K S (f p)) = some T0 from a0)
      rw [h0] at bu
      have hz := zl_1 bu
      by_cases z : f q = 0
      · exact z
      · rw [zl_2 (by omega) hz b0, zl_3] at b1
        cases b1
    | succ c ih =>
      intro q hq hqs
      have hp := ih (q - 1) (by omega) (by omega)
      obtain ⟨S2, e2⟩ := df_al (K := K) (f := f) (j := q + 2) (s - (q + 2)) (S := S) (by rw [show q + 2 + (s - (q + 2)) = s by omega]; exact h)
      obtain ⟨T1, a1, b1⟩ := Option.bind_eq_some_iff.mp (show (df_rn K f (q + 1)).bind (fun S => df_af K S (f (q + 1))) = some S2 from e2)
      obtain ⟨T0, a0, b0⟩ := Option.bind_eq_some_iff.mp (show (df_rn K f q).bind (fun S => df_af K S (f q)) = some T1 from a1)
      obtain ⟨r, rfl⟩ : ∃ r, q = r + 1 := ⟨q - 1, by omega⟩
      obtain ⟨U, -, bu⟩ := Option.bind_eq_some_iff.mp (show (df_rn K f r).bind (fun S => df_af K S (f r)) = some T0 from a0)
      rw [show r + 1 - 1 = r by omega] at hp
      rw [hp] at bu
      have hz := zl_1 bu
      by_cases z : f (r + 1) = 0
      · exact z
      · rw [zl_2 (by omega) hz b0, zl_3] at b1
        cases b1
  exact key (q - p - 1) q (by omega) h2
theorem kz_K_fr {h h' : ax_H} {kk : Nat} {K : df_K} (e : ∀ (k' : Nat) (i' : Int), k' = 546 ∨ k' = 547 ∨ k' = 548 → ab_rd h' k' i' = ab_rd h k' i') (hK : kz_K h kk K) : kz_K h' kk K := fun v hv => by
  obtain ⟨a, b, c, d⟩ := hK v hv
  refine ⟨?_, b, fun i => ?_, fun i => ?_⟩
  · rw [ab_ri_of (e 546 _ (Or.inl rfl))]; exact a
  · rw [ab_ri_of (e 547 _ (Or.inr (Or.inl rfl)))]; exact c i
  · rw [ab_ri_of (e 548 _ (Or.inr (Or.inr rfl)))]; exact d i
end
section
/-! ===== fillTo and fillAll of the reference, exactly (ways printed by wip/v2/mk97.py) ===== -/
theorem fo_iff {h : ax_H} {p : Nat} {sg : Nat → Nat} (hp : ab_ri h 542 14 = (p : Int)) (hsg : ∀ i : Nat, i < p → ab_ri h 554 (i : Int) = (sg i : Int)) (j : Nat) : fo h j = true ↔ p ≤ j ∨ sg j = 14 := by
  unfold fo
  rw [Bool.or_eq_true, decide_eq_true_iff, decide_eq_true_iff, hp]
  by_cases q : p ≤ j
  · exact ⟨fun _ => Or.inl q, fun _ => Or.inl (by omega)⟩
  · rw [hsg j (by omega)]
    exact ⟨fun z => Or.inr (by omega), fun z => Or.inr (by omega)⟩
/-- what is filled in so far, as the test reads it -/
def zf (h : ax_H) (j i : Nat) : Nat := if i ≤ j then dgs h i else 0
/-- where the filling stands, besides FIv: what stands may stand there; what is said is of the fillings ahead -/
def FE (K : df_K) (p : Nat) (sg : Nat → Nat) (N : Nat) (D : fl_D) (h' : ax_H) (j : Nat) : Prop := (∀ i, i ≤ j → dgs h' i < 14 → fl_ok p sg i (dgs h' i)) ∧ RS h' p (fl_DD D K p sg N (dgs h') j)
def QE (h : ax_H) (n N : Nat) (K : df_K) (p : Nat) (sg : Nat → Nat) (D : fl_D) : Option Value → ax_H → Nat → Prop := fun r' h' n' => QF h n N r' h' n' ∧ RS h' p (fun s g => D s g ∨ s = N ∧ fl_A K p sg N g)
theorem dgs_w {h h' : ax_H} {j : Nat} {v : Int32} (w : ∀ (k' : Nat) (i' : Int), ab_rd h' k' i' = if k' = 571 ∧ i' = (j : Int) then some (.int v) else ab_rd h k' i') : (∀ i, i ≠ j → dgs h' i = dgs h i) ∧ dgs h' j = v.toInt.toNat := by
  have g := mc_ri w
  constructor
  · intro i hi
    unfold dgs
    rw [g, if_neg (fun z => hi (by have := z.2; omega))]
  · unfold dgs
    rw [g, if_pos ⟨rfl, rfl⟩]
theorem RS_w {h h' : ax_H} {j : Int} {v : Int32} {p : Nat} {D : fl_D} (w : ∀ (k' : Nat) (i' : Int), ab_rd h' k' i' = if k' = 571 ∧ i' = j then some (.int v) else ab_rd h k' i') (S : RS h p D) : RS h' p D :=
  RS_fr (fun k' i' hk => by rw [w, if_neg (fun z => by have := z.1; omega)]) S
set_option maxHeartbeats 4000000 in
set_option maxRecDepth 100000 in
theorem fx_loop {l : Launch} {G : ax_T} {d : Nat} {h : ax_H} {n : Nat} (hd3 : 3 ≤ d) (H : mc_HW h n) (k s : Int32) {kk : Nat} (hk : k.toInt = (kk : Int)) (hk5 : kk < 6) {K : df_K} (hK : kz_K h kk K) (hG : df_G K) {N : Nat} (hs : s.toInt = (N : Int)) (hN : N ≤ 21) (hS0 : 0 ≤ ab_ri h 542 37) (hB : ab_ri h 542 37 + (psi (Pf (fo h) N) (Pf (fo h) N) : Int) ≤ 40000) {p : Nat} (hpp : ab_ri h 542 14 = (p : Int)) (hpN : p ≤ N) {sg : Nat → Nat} (hsg : ∀ i : Nat, i < p → ab_ri h 554 (i : Int) = (sg i : Int)) {D : fl_D} : ∀ (c : Nat) (h' : ax_H) (a : Int32) (j : Nat), a.toInt = (j : Int) → j < N → FIv h h' n N j → FM h h' N j ≤ c → FE K p sg N D h' j → mc_R l G mt_X11_fillTo d (QE h n N K p sg D) (13, [(0, .ref 542), (1, .int k), (2, .int s), (3, .int a)], [], h', n, 0, 0) := by
  have hmi : mt_X11_fillTo ∈ mt_prog := List.mem_of_getElem? mi_X11_fillTo
  have hp : 0 ≤ ab_ri h 542 14 ∧ ab_ri h 542 14 ≤ 20 := mc_frng H (k := 542) (j := 14) (ci := 11) rfl rfl
  have hfo := fo_iff hpp hsg
  intro c
  induction c with
  | zero =>
    intro h' a j ha hj I hM E
    have : 1 ≤ FM h h' N j := by unfold FM; split <;> omega
    omega
  | succ c ih =>
    intro h' a j ha hj I hM E
    obtain ⟨E1, E2⟩ := E
    obtain ⟨i1, i2, i3, i4, i5, i6, i7⟩ := id I
    have hvo : ∀ (j : Nat) (x : Int), (if fo h j = true then x else 14) = if p ≤ j ∨ sg j = 14 then x else 14 := fun j x => by
      by_cases q : p ≤ j ∨ sg j = 14
      · rw [if_pos q, if_pos ((hfo j).mpr q)]
      · rw [if_neg q, if_neg (fun z => q ((hfo j).mp z))]
    refine mc_cx hmi 1 (F' := (14, [(0, .ref 542), (1, .int k), (2, .int s), (3, .int a)], [.int a], h', n, 0, 0)) (by with_unfolding_all rfl) ?_
    refine mc_cz hmi (c := .lt) (tg := 134) (pc' := 17) rfl rfl rfl ha (fun (q101 : (j : Int) < 0) => ?_) (fun (q101 : 0 ≤ (j : Int)) => ?_)
    · exact absurd q101 (by omega)
    · refine mc_cx hmi 1 (F' := (18, [(0, .ref 542), (1, .int k), (2, .int s), (3, .int a)], [.ref 542], h', n, 0, 0)) (by with_unfolding_all rfl) ?_
      refine mc_getr hmi i1 (k := 542) (c := 571) (pc' := 21) rfl rfl rfl rfl rfl ?_
      refine mc_cx hmi 1 (F' := (22, [(0, .ref 542), (1, .int k), (2, .int s), (3, .int a)], [.int a, .ref 571], h', n, 0, 0)) (by with_unfolding_all rfl) ?_
      refine mc_iald hmi i1 (k := 571) (i := (j : Int)) (pc' := 23) rfl rfl rfl ha (by omega) (by omega) rfl (fun y102 e103 r104 r105 => ?_)
      rw [e103] at r104 r105
      refine mc_cx hmi 1 (F' := (25, [(0, .ref 542), (1, .int k), (2, .int s), (3, .int a)], [.int (Int8.ofInt 14).toInt32, .int y102], h', n, 0, 0)) (by with_unfolding_all rfl) ?_
      refine mc_ci hmi (c := .ne) (tg := 49) (pc' := 28) rfl rfl rfl e103 (by decide) (fun (q106 : ab_ri h' 571 ((j : Int)) ≠ 14) => ?_) (fun (q106 : ab_ri h' 571 ((j : Int)) = 14) => ?_)
      · have h13 : ab_ri h' 571 (j : Int) ≤ 13 := by have := i4.2; omega
        have hall : ∀ z : Int, 0 ≤ z → z < (j : Int) + 1 → 0 ≤ ab_ri h' 571 z ∧ ab_ri h' 571 z ≤ 13 := by
          intro z z0 z1
          by_cases e : z = (j : Int)
          · rw [e]; exact ⟨i4.1, h13⟩
          · have := i3 z.toNat (by omega); rw [show ((z.toNat : Nat) : Int) = z by omega] at this; exact this
        have hd : ∀ i, i ≤ j → dgs h' i < 14 := fun i hi => by have := hall (i : Int) (by omega) (by omega); unfold dgs; omega
        have hNl := NN_lt (o := fo h) (dg := dgs h') (s := N) hj (fun i hi => by have := hd i hi; omega)
        have hW := Wc_pos (o := fo h) (s := N) (N - (j + 1))
        have b0 : ab_ri h' 542 37 ≤ ab_ri h 542 37 + (psi (Pf (fo h) N) (NN (fo h) (dgs h') N j + Wc (fo h) N (N - (j + 1))) : Int) := by have := psi_mono (T := Pf (fo h) N) (Nat.le_add_right (NN (fo h) (dgs h') N j) (Wc (fo h) N (N - (j + 1)))); omega
        have hKz : kz_K h' kk K := kz_K_fr (fun k' i' hk => i2 k' i' (by omega) (by omega) (by omega) (by omega) (fun z => by omega)) hK
        have zF : ∀ i : Nat, i < j + 1 → ab_ri h' 571 (i : Int) = (zf h' j i : Int) := fun i hi => by have := hall (i : Int) (by omega) (by omega); unfold zf; rw [if_pos (by omega)]; unfold dgs; omega
        have zF1 : ∀ i, zf h' j i < 14 := fun i => by unfold zf; split <;> first | exact hd i (by omega) | decide
        have zq : ∀ i, i ≤ j → zf h' j i = dgs h' i := fun i hi => by unfold zf; rw [if_pos hi]
        have hpl : ab_ri h' 542 14 = (p : Int) := (ab_ri_of (i2 542 14 (by decide) (by decide) (by decide) (by decide) (fun _ => by decide))).trans hpp
        refine mc_cx hmi 2 (F' := (51, [(0, .ref 542), (1, .int k), (2, .int s), (3, .int a)], [.ref 542, .ref 542], h', n, 0, 0)) (by with_unfolding_all rfl) ?_
        refine mc_getr hmi i1 (k := 542) (c := 571) (pc' := 54) rfl rfl rfl rfl rfl ?_
        refine mc_cx hmi 9 (F' := (63, [(0, .ref 542), (1, .int k), (2, .int s), (3, .int a)], [.int s, .int (a + (Int32.ofInt 1)), .int k, .int (a + (Int32.ofInt 1)), .int (Int32.ofInt 0), .ref 571, .ref 542], h', n, 0, 0)) (by with_unfolding_all rfl) ?_
        have e118 : (a + (Int32.ofInt 1)).toInt = (j : Int) + 1 := mc_add ha (by decide) (by omega) (by omega)
        have e119 : (a + (Int32.ofInt 1)).toInt = (j : Int) + 1 := mc_add ha (by decide) (by omega) (by omega)
        have key : ∀ u : Int32, (u.toInt = 0 ∧ ¬ (j + 1 = N) ∨ u.toInt ≠ 0 ∧ j + 1 = N) → mc_R l G mt_X11_fillTo d (QE h n N K p sg D) (71, [(0, .ref 542), (1, .int k), (2, .int s), (3, .int a)], [.int u, .int k, .int (a + (Int32.ofInt 1)), .int (Int32.ofInt 0), .ref 571, .ref 542], h', n, 0, 0) := by
          intro u hu
          refine mc_callP hmi (en := (71, .invokevirtual 162, 3, (3, 168, 11, 0), [1338, 80, 1336])) rfl (q := (mt_X11_keepsAll, [.ref 542, .ref 571, .int (Int32.ofInt 0), .int (a + (Int32.ofInt 1)), .int k, .int u], [])) (mc_inv i1 (as := [.ref 571, .int (Int32.ofInt 0), .int (a + (Int32.ofInt 1)), .int k, .int u]) (rest := []) rfl (by with_unfolding_all rfl) rfl rfl rfl) ⟨rfl, rfl⟩ (pc' := 74) rfl (kz_keepsAll hd3 i1 hKz (f := (Int32.ofInt 0)) (s := (a + (Int32.ofInt 1))) (k := k) (w := u) (by decide) (size := j + 1) (by rw [e119]; omega) (by omega) hk hk5 zF zF1 hu) (fun y120 e121 => ?_)
          rw [ka_all hG zF1] at e121
          refine mc_cz hmi (c := .ne) (tg := 91) (pc' := 77) rfl rfl rfl rfl (fun (q122 : y120.toInt ≠ 0) => ?_) (fun (q122 : y120.toInt = 0) => ?_)
          · obtain ⟨S', ks1, ks2⟩ := e121.elim (fun q => q.2) (fun q => absurd q.1 q122)
            refine mc_cx hmi 4 (F' := (95, [(0, .ref 542), (1, .int k), (2, .int s), (3, .int a)], [.int s, .int (a + (Int32.ofInt 1))], h', n, 0, 0)) (by with_unfolding_all rfl) ?_
            have e130 : (a + (Int32.ofInt 1)).toInt = (j : Int) + 1 := mc_add ha (by decide) (by omega) (by omega)
            refine mc_ci hmi (c := .ne) (tg := 117) (pc' := 98) rfl rfl rfl e130 hs (fun (q131 : ((j : Int) + 1) ≠ (N : Int)) => ?_) (fun (q131 : ((j : Int) + 1) = (N : Int)) => ?_)
            · refine mc_cx hmi 2 (F' := (121, [(3, .int (a + Int32.ofInt 1)), (0, .ref 542), (1, .int k), (2, .int s)], [.ref 542], h', n, 0, 0)) (by with_unfolding_all rfl) ?_
              have e132 : (a + Int32.ofInt 1).toInt = (j : Int) + 1 := mc_add ha (by decide) (by omega) (by omega)
              refine mc_getr hmi i1 (k := 542) (c := 571) (pc' := 124) rfl rfl rfl rfl rfl ?_
              refine mc_cx hmi 3 (F' := (127, [(3, .int (a + Int32.ofInt 1)), (0, .ref 542), (1, .int k), (2, .int s)], [.int (a + Int32.ofInt 1), .ref 542, .int (a + Int32.ofInt 1), .ref 571], h', n, 0, 0)) (by with_unfolding_all rfl) ?_
              have ea : (a + Int32.ofInt 1).toInt = ((j + 1 : Nat) : Int) := by rw [e132]; omega
              refine mc_callP hmi (en := (127, .invokevirtual 257, 3, (3, 208, 11, 0), [1494, 100, 1492])) rfl (q := (mt_X11_first, [.ref 542, .int (a + Int32.ofInt 1)], [.int (a + Int32.ofInt 1), .ref 571])) (mc_inv i1 (as := [.int (a + Int32.ofInt 1)]) (rest := [.int (a + Int32.ofInt 1), .ref 571]) rfl (by with_unfolding_all rfl) rfl rfl rfl) ⟨rfl, rfl⟩ (pc' := 130) rfl (mc_first (by omega) i1 (a + Int32.ofInt 1) ea) (fun y133 e134 => ?_)
              have hv : y133.toInt = if fo h (j + 1) then 0 else ab_ri h 554 ((j + 1 : Nat) : Int) := by rw [e134, FRF_fo i2, show ab_ri h' 554 ((j + 1 : Nat) : Int) = ab_ri h 554 ((j + 1 : Nat) : Int) from ab_ri_of (i2 554 _ (by decide) (by decide) (by decide) (by decide) (fun q => absurd q (by decide)))]
              have hv0 : 0 ≤ y133.toInt ∧ y133.toInt ≤ 13 := by
                rw [hv]
                cases ho : fo h (j + 1) with
                | true => rw [if_pos rfl]; omega
                | false =>
                  unfold fo at ho
                  rw [Bool.or_eq_false_iff] at ho
                  have o1 := of_decide_eq_false ho.1
                  have o2 := of_decide_eq_false ho.2
                  have o3 := mc_rng H (k := 554) (i := ((j + 1 : Nat) : Int)) rfl rfl (by omega) (by omega)
                  rw [if_neg (show ¬ (false = true) by decide)]
                  omega
              have b135 := Int32.le_toInt (y133)
              have b136 := Int32.toInt_lt (y133)
              refine mc_iast hmi i1 (k := 571) (i := ((j + 1 : Nat) : Int)) (pc' := 131) rfl rfl rfl ea (by omega) (by omega) (by rw [show (y133).toInt = y133.toInt from rfl]; omega) (by rw [show (y133).toInt = y133.toInt from rfl]; omega) rfl (fun h137 H138 w139 => ?_)
              refine mc_cx hmi 1 (F' := (13, [(3, .int (a + Int32.ofInt 1)), (0, .ref 542), (1, .int k), (2, .int s)], [], h137, n, 0, 0)) (by with_unfolding_all rfl) ?_
              refine mc_lvs (lv' := [(0, .ref 542), (1, .int k), (2, .int s), (3, .int (a + Int32.ofInt 1))]) (by simp) ?_
              obtain ⟨dg1, dg2⟩ := dgs_w w139
              have hdv : dgs h137 (j + 1) = if p ≤ j + 1 ∨ sg (j + 1) = 14 then 0 else sg (j + 1) := by
                rw [dg2, hv]
                by_cases q : p ≤ j + 1 ∨ sg (j + 1) = 14
                · rw [if_pos q, if_pos ((hfo (j + 1)).mpr q)]; rfl
                · rw [if_neg q, if_neg (fun z => q ((hfo (j + 1)).mp z)), hsg (j + 1) (by omega)]; rfl
              obtain ⟨I2, M2⟩ := FD I (by omega) h13 H138 w139 hv hv0.1 hv0.2 hM (by omega)
              refine ih h137 (a + Int32.ofInt 1) (j + 1) ea (by omega) I2 M2 ⟨fun i hi hlt => ?_, RS_w w139 (RS_ex (fl_push (by omega) (fun i hi => dg1 i (by omega)) hdv) E2)⟩
              by_cases q : i = j + 1
              · subst q
                refine ⟨hlt, ?_⟩
                rw [hdv]
                split
                · rename_i z; exact z.elim Or.inl (fun u => Or.inr (Or.inl u))
                · exact Or.inr (Or.inr rfl)
              · rw [dg1 i q] at hlt ⊢
                exact E1 i (by omega) hlt
            · have eN : N = j + 1 := by omega
              have hW1 : Wc (fo h) N (N - (j + 1)) = 1 := by rw [show N - (j + 1) = 0 by omega]; rfl
              have hH : NN (fo h) (dgs h') N j = Hn (fo h) (dgs h') N := by unfold NN; rw [hW1, Nat.mul_one, ← eN]
              have h4 : Pf (fo h) N = 38416 → NN (fo h) (dgs h') N j < 196 ∨ 2744 ≤ NN (fo h) (dgs h') N j := by
                intro hT
                rw [hH]
                refine four hT (fun i hi => ?_) (fun p q p1 p2 p3 => ?_)
                · have := hd i (by omega); omega
                · have := zk ks1 p1 (by omega) (by rw [zq p (by omega)]; exact p3); rw [zq q (by omega)] at this; exact this
              have hps := psi_s h4
              have hpm := psi_mono (T := Pf (fo h) N) (show NN (fo h) (dgs h') N j + 1 ≤ Pf (fo h) N by omega)
              have hq : fl_A K p sg N (dgs h') := ⟨fun i hi => E1 i (by omega) (hd i (by omega)), S', (df_cg N (fun i hi => (zq i (by omega)).symm)).trans (by rw [eN]; exact ks1), ks2 eN.symm⟩
              refine mc_cx hmi 2 (F' := (100, [(0, .ref 542), (1, .int k), (2, .int s), (3, .int a)], [.int s, .ref 542], h', n, 0, 0)) (by with_unfolding_all rfl) ?_
              refine mc_call hmi (en := (100, .invokevirtual 263, 3, (3, 210, 11, 0), [1506, 103, 1504])) rfl (q := (mt_X11_take, [.ref 542, .int s], [])) (mc_inv i1 (as := [.int s]) (rest := []) rfl (by with_unfolding_all rfl) rfl rfl rfl) ⟨rfl, rfl⟩ (pc' := 103) rfl (mc_mono (tx_take (by omega) i1 (s := s) (size := N) hs hN hpl hpN (F := dgs h') (fun i hi => by rw [zF i (by omega), zq i (by omega)]) (fun i hi => hd i (by omega)) E2 (by omega) i6) ?_)
              intro r1 h1 n1 P1
              obtain ⟨e1, e2, ⟨t1, t2, t3, t4, t5⟩, RS1⟩ := P1
              rw [e1, e2]
              show mc_R _ _ _ _ _ (103, [(0, .ref 542), (1, .int k), (2, .int s), (3, .int a)], [], h1, n, 0, 0)
              have f1 : FRF h h1 := fun k' i' p1 p2 p3 p4 p5 => (t5 k' i' p1 p2 p3 p5).trans (i2 k' i' p1 p2 p3 p4 p5)
              have g1 : ∀ z : Int, ab_ri h1 571 z = ab_ri h' 571 z := fun z => ab_ri_of (t5 571 z (by decide) (by decide) (by decide) (fun q => absurd q (by decide)))
              have gd : ∀ i, dgs h1 i = dgs h' i := fun i => by unfold dgs; rw [g1]
              refine mc_cx hmi 1 (F' := (104, [(0, .ref 542), (1, .int k), (2, .int s), (3, .int a)], [.ref 542], h1, n, 0, 0)) (by with_unfolding_all rfl) ?_
              refine mc_getr hmi t1 (k := 542) (c := 571) (pc' := 107) rfl rfl rfl rfl rfl ?_
              refine mc_cx hmi 3 (F' := (110, [(0, .ref 542), (1, .int k), (2, .int s), (3, .int a)], [.int a, .ref 542, .int a, .ref 571], h1, n, 0, 0)) (by with_unfolding_all rfl) ?_
              refine mc_callP hmi (en := (110, .invokevirtual 260, 3, (3, 209, 11, 0), [1502, 102, 1500])) rfl (q := (mt_X11_after, [.ref 542, .int a], [.int a, .ref 571])) (mc_inv t1 (as := [.int a]) (rest := [.int a, .ref 571]) rfl (by with_unfolding_all rfl) rfl rfl rfl) ⟨rfl, rfl⟩ (pc' := 113) rfl (mc_after (by omega) t1 a ha (by omega)) (fun y140 e141 => ?_)
              have hv : y140.toInt = if fo h j then ab_ri h1 571 (j : Int) + 1 else 14 := by rw [e141, FRF_fo f1]
              rw [g1] at hv
              have hv0 : 0 ≤ y140.toInt ∧ y140.toInt ≤ 14 := by rw [hv]; split <;> omega
              have b142 := Int32.le_toInt (y140)
              have b143 := Int32.toInt_lt (y140)
              refine mc_iast hmi t1 (k := 571) (i := (j : Int)) (pc' := 114) rfl rfl rfl ha (by omega) (by omega) (by rw [show (y140).toInt = y140.toInt from rfl]; omega) (by rw [show (y140).toInt = y140.toInt from rfl]; omega) rfl (fun h144 H145 w146 => ?_)
              refine mc_cx hmi 1 (F' := (13, [(0, .ref 542), (1, .int k), (2, .int s), (3, .int a)], [], h144, n, 0, 0)) (by with_unfolding_all rfl) ?_
              refine mc_lvs (lv' := [(0, .ref 542), (1, .int k), (2, .int s), (3, .int a)]) (by simp) ?_
              obtain ⟨dg1, dg2⟩ := dgs_w w146
              have hdv : dgs h144 j = if p ≤ j ∨ sg j = 14 then dgs h' j + 1 else 14 := by
                have hv' := hv
                rw [hvo] at hv'
                rw [dg2, hv']
                unfold dgs
                split <;> omega
              obtain ⟨I2, M2⟩ := FA hN I hj h13 H145 f1 (fun i _ => g1 _) w146 hv t2 (by omega) (by rw [hW1]; omega) hM
              refine ih h144 a j ha hj I2 M2 ⟨fun i hi hlt => ?_, RS_w w146 (RS_ex (fl_adv1 eN.symm (hd j (Nat.le_refl j)) (E1 j (Nat.le_refl j) (hd j (Nat.le_refl j))) (fun i hi => (dg1 i (by omega)).trans (gd i)) hdv hq) RS1)⟩
              · by_cases q : i = j
                · subst q
                  refine ⟨hlt, ?_⟩
                  rw [hdv] at hlt ⊢
                  split at hlt
                  · rename_i z; exact z.elim Or.inl (fun u => Or.inr (Or.inl u))
                  · omega
                · rw [dg1 i q] at hlt ⊢
                  rw [gd] at hlt ⊢
                  exact E1 i (by omega) hlt
          · have hno : ¬ ∃ S', df_rn K (zf h' j) (j + 1) = some S' ∧ (j + 1 = N → df_wh K S') := e121.elim (fun q => absurd q.1 (by omega)) (fun q => q.2)
            have hna : ∀ g, fl_A K p sg N g → ¬ ∀ i, i ≤ j → g i = dgs h' i := by
              intro g ag hg
              obtain ⟨S, a1, a2⟩ := ag.2
              have ec : df_rn K g (j + 1) = df_rn K (zf h' j) (j + 1) := df_cg (j + 1) (fun i hi => (hg i (by omega)).trans (zq i (by omega)).symm)
              obtain ⟨S2, b2⟩ := df_al (K := K) (f := g) (j := j + 1) (N - (j + 1)) (S := S) (by rw [show j + 1 + (N - (j + 1)) = N by omega]; exact a1)
              refine hno ⟨S2, ec.symm.trans b2, fun e => ?_⟩
              rw [e, a1] at b2
              cases b2
              exact a2
            refine mc_cx hmi 1 (F' := (78, [(0, .ref 542), (1, .int k), (2, .int s), (3, .int a)], [.ref 542], h', n, 0, 0)) (by with_unfolding_all rfl) ?_
            refine mc_getr hmi i1 (k := 542) (c := 571) (pc' := 81) rfl rfl rfl rfl rfl ?_
            refine mc_cx hmi 3 (F' := (84, [(0, .ref 542), (1, .int k), (2, .int s), (3, .int a)], [.int a, .ref 542, .int a, .ref 571], h', n, 0, 0)) (by with_unfolding_all rfl) ?_
            refine mc_callP hmi (en := (84, .invokevirtual 260, 3, (3, 209, 11, 0), [1502, 102, 1500])) rfl (q := (mt_X11_after, [.ref 542, .int a], [.int a, .ref 571])) (mc_inv i1 (as := [.int a]) (rest := [.int a, .ref 571]) rfl (by with_unfolding_all rfl) rfl rfl rfl) ⟨rfl, rfl⟩ (pc' := 87) rfl (mc_after (by omega) i1 a ha (by omega)) (fun y123 e124 => ?_)
            have hv : y123.toInt = if fo h j then ab_ri h' 571 (j : Int) + 1 else 14 := by rw [e124, FRF_fo i2]
            have hv0 : 0 ≤ y123.toInt ∧ y123.toInt ≤ 14 := by rw [hv]; split <;> omega
            have b125 := Int32.le_toInt (y123)
            have b126 := Int32.toInt_lt (y123)
            refine mc_iast hmi i1 (k := 571) (i := (j : Int)) (pc' := 88) rfl rfl rfl ha (by omega) (by omega) (by rw [show (y123).toInt = y123.toInt from rfl]; omega) (by rw [show (y123).toInt = y123.toInt from rfl]; omega) rfl (fun h127 H128 w129 => ?_)
            refine mc_cx hmi 1 (F' := (13, [(0, .ref 542), (1, .int k), (2, .int s), (3, .int a)], [], h127, n, 0, 0)) (by with_unfolding_all rfl) ?_
            refine mc_lvs (lv' := [(0, .ref 542), (1, .int k), (2, .int s), (3, .int a)]) (by simp) ?_
            obtain ⟨dg1, dg2⟩ := dgs_w w129
            have hdv : dgs h127 j = if p ≤ j ∨ sg j = 14 then dgs h' j + 1 else 14 := by
              have hv' := hv
              rw [hvo] at hv'
              rw [dg2, hv']
              unfold dgs
              split <;> omega
            obtain ⟨I2, M2⟩ := FA hN I hj h13 H128 i2 (fun _ _ => rfl) w129 hv (Int.le_refl _) i6 b0 hM
            refine ih h127 a j ha hj I2 M2 ⟨fun i hi hlt => ?_, RS_w w129 (RS_ex (fl_adv0 hj (hd j (Nat.le_refl j)) (E1 j (Nat.le_refl j) (hd j (Nat.le_refl j))) (fun i hi => dg1 i (by omega)) hdv hna) E2)⟩
            · by_cases q : i = j
              · subst q
                refine ⟨hlt, ?_⟩
                rw [hdv] at hlt ⊢
                split at hlt
                · rename_i z; exact z.elim Or.inl (fun u => Or.inr (Or.inl u))
                · omega
              · rw [dg1 i q] at hlt ⊢
                exact E1 i (by omega) hlt
        refine mc_ci hmi (c := .ne) (tg := 70) (pc' := 66) rfl rfl rfl e119 hs (fun (q147 : ((j : Int) + 1) ≠ (N : Int)) => ?_) (fun (q147 : ((j : Int) + 1) = (N : Int)) => ?_)
        · refine mc_cx hmi 1 (F' := (71, [(0, .ref 542), (1, .int k), (2, .int s), (3, .int a)], [.int (Int32.ofInt 0), .int k, .int (a + (Int32.ofInt 1)), .int (Int32.ofInt 0), .ref 571, .ref 542], h', n, 0, 0)) (by with_unfolding_all rfl) ?_
          exact key _ (Or.inl ⟨by decide, by omega⟩)
        · refine mc_cx hmi 2 (F' := (71, [(0, .ref 542), (1, .int k), (2, .int s), (3, .int a)], [.int (Int32.ofInt 1), .int k, .int (a + (Int32.ofInt 1)), .int (Int32.ofInt 0), .ref 571, .ref 542], h', n, 0, 0)) (by with_unfolding_all rfl) ?_
          exact key _ (Or.inr ⟨by decide, by omega⟩)
      · have h14 : ab_ri h' 571 (j : Int) = 14 := q106
        have h14' : dgs h' j = 14 := by unfold dgs; rw [h14]; rfl
        refine mc_cx hmi 2 (F' := (32, [(3, .int (a + Int32.ofInt (-1))), (0, .ref 542), (1, .int k), (2, .int s)], [.int (a + Int32.ofInt (-1))], h', n, 0, 0)) (by with_unfolding_all rfl) ?_
        have e107 : (a + Int32.ofInt (-1)).toInt = (j : Int) + (-1) := mc_add ha (by decide) (by omega) (by omega)
        generalize (a + Int32.ofInt (-1)) = z108 at e107 ⊢
        refine mc_cz hmi (c := .lt) (tg := 13) (pc' := 35) rfl rfl rfl e107 (fun (q109 : ((j : Int) + (-1)) < 0) => ?_) (fun (q109 : 0 ≤ ((j : Int) + (-1))) => ?_)
        · have ej : j = 0 := by omega
          refine mc_cx hmi 1 (F' := (14, [(3, .int z108), (0, .ref 542), (1, .int k), (2, .int s)], [.int z108], h', n, 0, 0)) (by with_unfolding_all rfl) ?_
          refine mc_cz hmi (c := .lt) (tg := 134) (pc' := 17) rfl rfl rfl e107 (fun (q110 : ((j : Int) + (-1)) < 0) => ?_) (fun (q110 : 0 ≤ ((j : Int) + (-1))) => ?_)
          · subst ej
            refine mc_ret hmi rfl rfl rfl ⟨⟨rfl, rfl, i1, i2, i5, i6, ?_⟩, RS_ex (fl_end (by omega) h14') E2⟩
            rw [NN_last (by omega) (show dgs h' 0 = 14 by unfold dgs; rw [h14]; rfl)] at i7
            exact i7
          · exact absurd q109 (by omega)
        · obtain ⟨j, rfl⟩ : ∃ j', j = j' + 1 := ⟨j - 1, by omega⟩
          have ea : z108.toInt = (j : Int) := by rw [e107]; omega
          refine mc_cx hmi 1 (F' := (36, [(3, .int z108), (0, .ref 542), (1, .int k), (2, .int s)], [.ref 542], h', n, 0, 0)) (by with_unfolding_all rfl) ?_
          refine mc_getr hmi i1 (k := 542) (c := 571) (pc' := 39) rfl rfl rfl rfl rfl ?_
          refine mc_cx hmi 3 (F' := (42, [(3, .int z108), (0, .ref 542), (1, .int k), (2, .int s)], [.int z108, .ref 542, .int z108, .ref 571], h', n, 0, 0)) (by with_unfolding_all rfl) ?_
          refine mc_callP hmi (en := (42, .invokevirtual 260, 3, (3, 209, 11, 0), [1502, 102, 1500])) rfl (q := (mt_X11_after, [.ref 542, .int z108], [.int z108, .ref 571])) (mc_inv i1 (as := [.int z108]) (rest := [.int z108, .ref 571]) rfl (by with_unfolding_all rfl) rfl rfl rfl) ⟨rfl, rfl⟩ (pc' := 45) rfl (mc_after (by omega) i1 z108 ea (by omega)) (fun y111 e112 => ?_)
          have hv : y111.toInt = if fo h j then ab_ri h' 571 (j : Int) + 1 else 14 := by rw [e112, FRF_fo i2]
          have hv0 : 0 ≤ y111.toInt ∧ y111.toInt ≤ 14 := by have := i3 j (by omega); rw [hv]; split <;> omega
          have b113 := Int32.le_toInt (y111)
          have b114 := Int32.toInt_lt (y111)
          refine mc_iast hmi i1 (k := 571) (i := (j : Int)) (pc' := 46) rfl rfl rfl ea (by omega) (by omega) (by rw [show (y111).toInt = y111.toInt from rfl]; omega) (by rw [show (y111).toInt = y111.toInt from rfl]; omega) rfl (fun h115 H116 w117 => ?_)
          refine mc_cx hmi 1 (F' := (13, [(3, .int z108), (0, .ref 542), (1, .int k), (2, .int s)], [], h115, n, 0, 0)) (by with_unfolding_all rfl) ?_
          refine mc_lvs (lv' := [(0, .ref 542), (1, .int k), (2, .int s), (3, .int z108)]) (by simp) ?_
          have hdj : 0 ≤ ab_ri h' 571 (j : Int) ∧ ab_ri h' 571 (j : Int) ≤ 13 := i3 j (by omega)
          have hd13 : dgs h' j < 14 := by unfold dgs; omega
          obtain ⟨dg1, dg2⟩ := dgs_w w117
          have hdv : dgs h115 j = if p ≤ j ∨ sg j = 14 then dgs h' j + 1 else 14 := by
            have hv' := hv
            rw [hvo] at hv'
            rw [dg2, hv']
            unfold dgs
            split <;> omega
          obtain ⟨I2, M2⟩ := FP I hj h14 H116 w117 hv hM (by omega)
          refine ih h115 z108 j ea (by omega) I2 M2 ⟨fun i hi hlt => ?_, RS_w w117 (RS_ex (fl_pop hj h14' hd13 (E1 j (by omega) hd13) (fun i hi => dg1 i (by omega)) hdv) E2)⟩
          by_cases q : i = j
          · subst q
            have hok := E1 i (by omega) hd13
            refine ⟨hlt, ?_⟩
            rw [hdv] at hlt ⊢
            unfold fl_ok at hok
            split at hlt
            · rename_i z; exact z.elim Or.inl (fun u => Or.inr (Or.inl u))
            · omega
          · rw [dg1 i q] at hlt ⊢
            exact E1 i (by omega) hlt
set_option maxHeartbeats 4000000 in
set_option maxRecDepth 100000 in
theorem fx_fillTo {l : Launch} {G : ax_T} {d : Nat} {h : ax_H} {n : Nat} (hd3 : 4 ≤ d) (H : mc_HW h n) (k s : Int32) {kk : Nat} (hk : k.toInt = (kk : Int)) (hk5 : kk < 6) {K : df_K} (hK : kz_K h kk K) (hG : df_G K) {N : Nat} (hs : s.toInt = (N : Int)) (hN : N ≤ 21) (hS0 : 0 ≤ ab_ri h 542 37) (hB : ab_ri h 542 37 + (psi (Pf (fo h) N) (Pf (fo h) N) : Int) ≤ 40000) {p : Nat} (hpp : ab_ri h 542 14 = (p : Int)) (hpN : p ≤ N) {sg : Nat → Nat} (hsg : ∀ i : Nat, i < p → ab_ri h 554 (i : Int) = (sg i : Int)) {D : fl_D} (hN1 : 1 ≤ N) (hnz : (nz (ab_ri h 569) 131072 : Int) ≤ ab_ri h 542 37) (S : RS h p D) : mc_M l G d mt_X11_fillTo [.ref 542, .int k, .int s] h n (QE h n N K p sg D) := by
  obtain ⟨d, rfl⟩ : ∃ e, d = e + 1 := ⟨d - 1, by omega⟩
  have hmi : mt_X11_fillTo ∈ mt_prog := List.mem_of_getElem? mi_X11_fillTo
  have hp : 0 ≤ ab_ri h 542 14 ∧ ab_ri h 542 14 ≤ 20 := mc_frng H (k := 542) (j := 14) (ci := 11) rfl rfl
  have hfo := fo_iff hpp hsg
  refine mc_to hmi rfl ?_
  show mc_R _ _ _ _ _ (0, [(0, .ref 542), (1, .int k), (2, .int s)], [], h, n, 0, 0)
  refine mc_cx hmi 3 (F' := (3, [(3, .int (Int32.ofInt 0)), (0, .ref 542), (1, .int k), (2, .int s)], [.ref 542], h, n, 0, 0)) (by with_unfolding_all rfl) ?_
  refine mc_getr hmi H (k := 542) (c := 571) (pc' := 6) rfl rfl rfl rfl rfl ?_
  refine mc_cx hmi 3 (F' := (9, [(3, .int (Int32.ofInt 0)), (0, .ref 542), (1, .int k), (2, .int s)], [.int (Int32.ofInt 0), .ref 542, .int (Int32.ofInt 0), .ref 571], h, n, 0, 0)) (by with_unfolding_all rfl) ?_
  refine mc_callP hmi (en := (9, .invokevirtual 257, 3, (3, 208, 11, 0), [1494, 100, 1492])) rfl (q := (mt_X11_first, [.ref 542, .int (Int32.ofInt 0)], [.int (Int32.ofInt 0), .ref 571])) (mc_inv H (as := [.int (Int32.ofInt 0)]) (rest := [.int (Int32.ofInt 0), .ref 571]) rfl (by with_unfolding_all rfl) rfl rfl rfl) ⟨rfl, rfl⟩ (pc' := 12) rfl (mc_first (by omega) H (Int32.ofInt 0) (j := 0) (by decide)) (fun y148 e149 => ?_)
  have hv0 : 0 ≤ y148.toInt ∧ y148.toInt ≤ 13 := by
    rw [e149]
    cases ho : fo h 0 with
    | true => rw [if_pos rfl]; omega
    | false =>
      unfold fo at ho
      rw [Bool.or_eq_false_iff] at ho
      have o1 := of_decide_eq_false ho.1
      have o2 := of_decide_eq_false ho.2
      have o3 := mc_rng H (k := 554) (i := ((0 : Nat) : Int)) rfl rfl (by omega) (by omega)
      rw [if_neg (show ¬ (false = true) by decide)]
      omega
  have hv : fo h 0 = true → y148.toInt = 0 := fun ho => by rw [e149, ho]; rfl
  have b150 := Int32.le_toInt (y148)
  have b151 := Int32.toInt_lt (y148)
  refine mc_iast hmi H (k := 571) (i := 0) (pc' := 13) rfl rfl rfl (by decide) (by omega) (by omega) (by rw [show (y148).toInt = y148.toInt from rfl]; omega) (by rw [show (y148).toInt = y148.toInt from rfl]; omega) rfl (fun h152 H153 w154 => ?_)
  refine mc_lvs (lv' := [(0, .ref 542), (1, .int k), (2, .int s), (3, .int (Int32.ofInt 0))]) (by simp) ?_
  have ww : ∀ (k' : Nat) (i' : Int), ab_rd h152 k' i' = if k' = 571 ∧ i' = ((0 : Nat) : Int) then some (.int y148) else ab_rd h k' i' := w154
  obtain ⟨k1, k2, k3, k4, k5⟩ := FW (j := 0) (fun _ _ _ _ _ _ _ => rfl) ww
  obtain ⟨dg1, dg2⟩ := dgs_w ww
  have hdv : dgs h152 0 = if p ≤ 0 ∨ sg 0 = 14 then 0 else sg 0 := by
    rw [dg2, e149]
    by_cases q : p ≤ 0 ∨ sg 0 = 14
    · rw [if_pos q, if_pos ((hfo 0).mpr q)]; rfl
    · rw [if_neg q, if_neg (fun z => q ((hfo 0).mp z)), hsg 0 (by omega)]; rfl
  have hNN : NN (fo h) (dgs h152) N 0 = 0 := by
    unfold NN
    rw [Hn_s]
    have e0 : dgs h152 0 = y148.toInt.toNat := by unfold dgs; rw [k3]
    rw [e0]
    cases ho : fo h 0 with
    | true => rw [if_pos rfl, hv ho]; exact Nat.zero_mul _
    | false => rw [if_neg (show ¬ (false = true) by decide), if_neg (by omega)]; exact Nat.zero_mul _
  refine fx_loop (by omega) H k s hk hk5 hK hG hs hN hS0 hB hpp hpN hsg _ h152 (Int32.ofInt 0) 0 (by decide) (by omega) ⟨H153, k1, fun i hi => absurd hi (Nat.not_lt_zero i), by rw [k3]; omega, by omega, by rw [k5, k4]; exact hnz, by rw [k4]; omega⟩ (Nat.le_refl _) ⟨fun i hi hlt => ?_, RS_w ww (RS_ex (fl_start (by omega) hdv) S)⟩
  obtain rfl : i = 0 := by omega
  refine ⟨hlt, ?_⟩
  rw [hdv]
  split
  · rename_i z; exact z.elim Or.inl (fun u => Or.inr (Or.inl u))
  · exact Or.inr (Or.inr rfl)
/-- all fillings of a stone, broken or not -/
def fl_F (K : df_K) (p : Nat) (sg : Nat → Nat) (b : Prop) : fl_D := fun s g => (s = p ∨ b ∧ s = p + 1) ∧ fl_A K p sg s g
set_option maxHeartbeats 4000000 in
set_option maxRecDepth 100000 in
theorem fx_fillAll {l : Launch} {G : ax_T} {d : Nat} {h : ax_H} {n : Nat} (hd : 4 ≤ d) (H : mc_HW h n) (k : Int32) {kk : Nat} (hk : k.toInt = (kk : Int)) (hk5 : kk < 6) {K : df_K} (hK : kz_K h kk K) (hG : df_G K) {p : Nat} (hpp : ab_ri h 542 14 = (p : Int)) (hp1 : 1 ≤ p) {sg : Nat → Nat} (hsg : ∀ i : Nat, i < p → ab_ri h 554 (i : Int) = (sg i : Int)) {b : Prop} (hb : ab_ri h 542 15 = 0 ∧ ¬ b ∨ ab_ri h 542 15 ≠ 0 ∧ b) (hg : ab_gc h 554 (ab_ri h 542 14).toNat ≤ 3) : mc_R l G mt_X11_fillAll d (fun r' h' n' => n' = n ∧ r' = none ∧ mc_HW h' n ∧ FRF h h' ∧ RS h' p (fl_F K p sg b)) (0, [(0, .ref 542), (1, .int k)], [], h, n, 0, 0) := by
  have hmi : mt_X11_fillAll ∈ mt_prog := List.mem_of_getElem? mi_X11_fillAll
  have hp : 0 ≤ ab_ri h 542 14 ∧ ab_ri h 542 14 ≤ 20 := mc_frng H (k := 542) (j := 14) (ci := 11) rfl rfl
  have hT1 : Pf (fo h) p = 14 ^ (ab_gc h 554 p) := Pf_gc h p (by omega)
  rw [show (ab_ri h 542 14).toNat = p by omega] at hg
  have hp3 := pow3 hg
  rw [← hT1] at hp3
  have hT2 : Pf (fo h) (p + 1) = Pf (fo h) p * 14 := by
    show Pf (fo h) p * (if fo h p then 14 else 1) = _
    rw [show fo h p = true from by unfold fo; rw [decide_eq_true (by omega)]; rfl, if_pos rfl]
  have hps1 : psi (Pf (fo h) p) (Pf (fo h) p) ≤ 2744 := by unfold psi; split <;> omega
  have hps2 : psi (Pf (fo h) (p + 1)) (Pf (fo h) (p + 1)) ≤ 35868 := by unfold psi; rw [hT2]; split <;> (try split) <;> (try split) <;> omega
  refine mc_cx hmi 2 (F' := (2, [(0, .ref 542), (1, .int k)], [.int (Int32.ofInt 0), .ref 542], h, n, 0, 0)) (by with_unfolding_all rfl) ?_
  refine mc_puti hmi H (k := 542) (j := 37) (pc' := 5) rfl rfl rfl rfl (by rw [show ((Int32.ofInt 0)).toInt = 0 from by decide]; omega) (by rw [show ((Int32.ofInt 0)).toInt = 0 from by decide]; omega) rfl (fun h155 H156 w157 => ?_)
  have g0 := mc_ri w157
  have f0 : FRF h h155 := fun k' i' p1 p2 p3 p4 p5 => by rw [w157, if_neg (fun q => p5 q.1 q.2)]
  refine mc_cx hmi 2 (F' := (7, [(2, .int (Int32.ofInt 0)), (0, .ref 542), (1, .int k)], [], h155, n, 0, 0)) (by with_unfolding_all rfl) ?_
  refine mc_lvs (lv' := [(0, .ref 542), (1, .int k), (2, .int (Int32.ofInt 0))]) (by simp) ?_
  refine fa_1 (h := h155) k (fun h1 H1 f1 z1 => ?_) 131072 0 h155 _ (Nat.zero_add _) rfl H156 (fun _ _ _ => rfl) (fun t ht => absurd ht (Nat.not_lt_zero t))
  refine mc_cx hmi 2 (F' := (28, [(2, .int (Int32.ofInt 0)), (0, .ref 542), (1, .int k)], [], h1, n, 0, 0)) (by with_unfolding_all rfl) ?_
  refine mc_lvs (lv' := [(0, .ref 542), (1, .int k), (2, .int (Int32.ofInt 0))]) (by simp) ?_
  refine fa_2 (h := h1) k (fun h2 H2 f2 z2 => ?_) 20 0 h1 _ (Nat.zero_add _) rfl H1 (fun _ _ _ => rfl) (fun t ht => absurd ht (Nat.not_lt_zero t))
  have fA : FRF h h2 := fun k' i' p1 p2 p3 p4 p5 => (f2 k' i' p3).trans ((f1 k' i' p2).trans (f0 k' i' p1 p2 p3 p4 p5))
  have eS : ab_ri h2 542 37 = 0 := by rw [ab_ri_of (f2 542 37 (by decide)), ab_ri_of (f1 542 37 (by decide)), g0, if_pos ⟨rfl, rfl⟩]; rfl
  have eh : ∀ t : Nat, t < 131072 → ab_ri h2 569 (t : Int) = 0 := fun t ht => by rw [ab_ri_of (f2 569 (t : Int) (by decide))]; exact z1 t ht
  have eZ : nz (ab_ri h2 569) 131072 = 0 := nz_0 _ eh
  have eF : fo h2 = fo h := funext (FRF_fo fA)
  have kzA : kz_K h2 kk K := kz_K_fr (fun k' i' hk => fA k' i' (by omega) (by omega) (by omega) (by omega) (fun z => by omega)) hK
  have eP : ab_ri h2 542 14 = (p : Int) := by rw [ab_ri_of (fA 542 14 (by decide) (by decide) (by decide) (by decide) (by decide))]; exact hpp
  have sgA : ∀ i : Nat, i < p → ab_ri h2 554 (i : Int) = (sg i : Int) := fun i hi => (ab_ri_of (fA 554 (i : Int) (by decide) (by decide) (by decide) (by decide) (fun z => absurd z (by decide)))).trans (hsg i hi)
  have S0 : RS h2 p (fun _ _ => False) := ⟨⟨0, SD_ex (fun v => ⟨fun q => q.elim, fun ⟨_, _, q, _⟩ => q⟩) (SD_0 eS eh)⟩, fun i hi => Or.inl ⟨z2 i (by omega), fun x ⟨_, _, q, _⟩ => q⟩⟩
  refine mc_cx hmi 3 (F' := (50, [(0, .ref 542), (1, .int k)], [.ref 542, .int k, .ref 542], h2, n, 0, 0)) (by with_unfolding_all rfl) ?_
  refine mc_geti hmi H2 (k := 542) (j := 14) (pc' := 53) rfl rfl rfl rfl (fun y158 (e159 : y158.toInt = ab_ri h2 542 14) r160 r161 => ?_)
  rw [e159] at r160 r161
  have ey : y158.toInt = (p : Int) := by rw [e159]; exact eP
  refine mc_call hmi (en := (53, .invokevirtual 254, 3, (3, 206, 11, 0), [1490, 99, 1488])) rfl (q := (mt_X11_fillTo, [.ref 542, .int k, .int y158], [])) (mc_inv H2 (as := [.int k, .int y158]) (rest := []) rfl (by with_unfolding_all rfl) rfl rfl rfl) ⟨rfl, rfl⟩ (pc' := 56) rfl (mc_mono (fx_fillTo (by omega) H2 k y158 hk hk5 kzA hG (N := p) ey (by omega) (by omega) (by rw [eF]; omega) eP (Nat.le_refl p) sgA hp1 (by rw [eZ]; omega) S0) ?_)
  intro r3 h3 n3 P3
  obtain ⟨⟨e1, e2, H3, f3, s3, z3, b3⟩, S3⟩ := P3
  rw [e1, e2]
  show mc_R _ _ _ _ _ (56, [(0, .ref 542), (1, .int k)], [], h3, n, 0, 0)
  rw [eF, eS] at b3
  have fB : FRF h h3 := fA.trans f3
  have eB : ab_ri h3 542 15 = ab_ri h 542 15 := ab_ri_of (fB 542 15 (by decide) (by decide) (by decide) (by decide) (by decide))
  refine mc_cx hmi 1 (F' := (57, [(0, .ref 542), (1, .int k)], [.ref 542], h3, n, 0, 0)) (by with_unfolding_all rfl) ?_
  refine mc_geti hmi H3 (k := 542) (j := 15) (pc' := 60) rfl rfl rfl rfl (fun y162 (e163 : y162.toInt = ab_ri h3 542 15) r164 r165 => ?_)
  rw [e163] at r164 r165
  refine mc_cz hmi (c := .eq) (tg := 74) (pc' := 63) rfl rfl rfl e163 (fun (q166 : ab_ri h3 542 15 = 0) => ?_) (fun (q166 : ab_ri h3 542 15 ≠ 0) => ?_)
  · have nb : ¬ b := hb.elim (fun q => q.2) (fun q => absurd (eB.symm.trans q166) q.1)
    exact mc_ret hmi rfl rfl rfl ⟨rfl, rfl, H3, fB, RS_ex (fun s g => ⟨fun z => z.elim False.elim (fun u => ⟨Or.inl u.1, u.1 ▸ u.2⟩), fun z => Or.inr (z.1.elim (fun u => ⟨u, u ▸ z.2⟩) (fun u => absurd u.1 nb))⟩) S3⟩
  · have hbb : b := hb.elim (fun q => absurd (eB.trans q.1) q166) (fun q => q.2)
    have eF3 : fo h3 = fo h := funext (FRF_fo fB)
    have kzB : kz_K h3 kk K := kz_K_fr (fun k' i' hk => fB k' i' (by omega) (by omega) (by omega) (by omega) (fun z => by omega)) hK
    have eP3 : ab_ri h3 542 14 = (p : Int) := by rw [ab_ri_of (fB 542 14 (by decide) (by decide) (by decide) (by decide) (by decide))]; exact hpp
    have sgB : ∀ i : Nat, i < p → ab_ri h3 554 (i : Int) = (sg i : Int) := fun i hi => (ab_ri_of (fB 554 (i : Int) (by decide) (by decide) (by decide) (by decide) (fun z => absurd z (by decide)))).trans (hsg i hi)
    refine mc_cx hmi 3 (F' := (66, [(0, .ref 542), (1, .int k)], [.ref 542, .int k, .ref 542], h3, n, 0, 0)) (by with_unfolding_all rfl) ?_
    refine mc_geti hmi H3 (k := 542) (j := 14) (pc' := 69) rfl rfl rfl rfl (fun y167 (e168 : y167.toInt = ab_ri h3 542 14) r169 r170 => ?_)
    rw [e168] at r169 r170
    refine mc_cx hmi 2 (F' := (71, [(0, .ref 542), (1, .int k)], [.int (y167 + (Int32.ofInt 1)), .int k, .ref 542], h3, n, 0, 0)) (by with_unfolding_all rfl) ?_
    have e171 : (y167 + (Int32.ofInt 1)).toInt = ab_ri h3 542 14 + 1 := mc_add e168 (by decide) (by omega) (by omega)
    have ex : (y167 + (Int32.ofInt 1)).toInt = ((p + 1 : Nat) : Int) := by rw [e171, eP3]; rfl
    refine mc_call hmi (en := (71, .invokevirtual 254, 3, (3, 206, 11, 0), [1490, 99, 1488])) rfl (q := (mt_X11_fillTo, [.ref 542, .int k, .int (y167 + (Int32.ofInt 1))], [])) (mc_inv H3 (as := [.int k, .int (y167 + (Int32.ofInt 1))]) (rest := []) rfl (by with_unfolding_all rfl) rfl rfl rfl) ⟨rfl, rfl⟩ (pc' := 74) rfl (mc_mono (fx_fillTo (by omega) H3 k (y167 + (Int32.ofInt 1)) hk hk5 kzB hG (N := p + 1) ex (by omega) (by omega) (by rw [eF3]; omega) eP3 (by omega) sgB (by omega) z3 S3) ?_)
    intro r4 h4 n4 P4
    obtain ⟨⟨e3, e4, H4, f4, s4, z4, b4⟩, S4⟩ := P4
    rw [e3, e4]
    show mc_R _ _ _ _ _ (74, [(0, .ref 542), (1, .int k)], [], h4, n, 0, 0)
    refine mc_ret hmi rfl rfl rfl ⟨rfl, rfl, H4, fB.trans f4, RS_ex (fun s g => ⟨fun z => ?_, fun z => ?_⟩) S4⟩
    · rcases z with (z | ⟨rfl, z⟩) | ⟨rfl, z⟩
      · exact z.elim
      · exact ⟨Or.inl rfl, z⟩
      · exact ⟨Or.inr ⟨hbb, rfl⟩, z⟩
    · obtain ⟨rfl | ⟨-, rfl⟩, z⟩ := z
      · exact Or.inl (Or.inr ⟨rfl, z⟩)
      · exact Or.inr ⟨rfl, z⟩
end
section
/-! ===== the machine where something was spent; new arrays; the worths' array (printed by wip/v2/mk98.py) ===== -/
def md_ok (mi : ax_MI) (cs ss : Nat) : Prop := mi ∈ mt_prog ∧ cs ≤ mi.2.2.2.2.2.2.1 ∧ ss ≤ mi.2.2.2.2.2.2.2.1
section MD
variable {l : Launch} {G : ax_T} {mi : ax_MI} {d : Nat} {Q : Option Value → ax_H → Nat → Prop} {pc pc' tg len : Nat} {lv : List (Nat × Value)} {st : List Value} {h : ax_H} {n cs ss : Nat}
theorem md_cx (hmi : md_ok mi cs ss) (k : Nat) {F F' : ax_F} (hc : cx G mi k F = some F') (hR : mc_R l G mi d Q F') : mc_R l G mi d Q F := mc_cx hmi.1 k hc hR
theorem md_stp (hmi : md_ok mi cs ss) {en : ax_EN} (ha : ax_at mi.2.2.2.2.2.2.2.2 pc = some en) {lv' : List (Nat × Value)} {st' : List Value} {h' : ax_H} (hs : ax_step (ab_io G) mi.2.2.2.1 en.2.1 en.2.2.2.1 pc lv st h n cs ss = some (pc', lv', st', h', n, cs, ss)) (hR : mc_R l G mi d Q (pc', lv', st', h', n, cs, ss)) : mc_R l G mi d Q (pc, lv, st, h, n, cs, ss) := by
  obtain ⟨o, h1, h2, h3⟩ := hR
  exact ⟨o, h1, ab_Wd_step mt_ok hmi.1 ha hs hmi.2.1 hmi.2.2 h2, h3⟩
theorem md_ret (hmi : md_ok mi cs ss) {en : ax_EN} (ha : ax_at mi.2.2.2.2.2.2.2.2 pc = some en) {r : Option Value} (hr : ax_rets en.2.1 st = some r) (ht : ax_retT mi.2.2.2.2.1 r = true) (hQ : Q r h n) : mc_R l G mi d Q (pc, lv, st, h, n, cs, ss) :=
  ⟨(r, h, n), ht, ab_Wd_ret mt_ok hmi.1 ha hr ht hmi.2.1 hmi.2.2, hQ⟩
theorem md_call (hmi : md_ok mi cs ss) {en : ax_EN} (ha : ax_at mi.2.2.2.2.2.2.2.2 pc = some en) {q : ax_MI × List Value × List Value} (hq : ax_inv mt_prog en.2.1 en.2.2.2.1 st h = some q) (h0 : q.1.2.2.2.2.2.2.1 = 0 ∧ q.1.2.2.2.2.2.2.2.1 = 0) (hp : pc + 3 = pc') (hM : mc_M l G d q.1 q.2.1 h n (fun r h' n' => mc_R l G mi d Q (pc', lv, r.toList ++ q.2.2, h', n', cs, ss))) : mc_R l G mi d Q (pc, lv, st, h, n, cs, ss) := by
  subst hp
  obtain ⟨o1, m1, o, m2, m3, m4⟩ := hM
  refine ⟨o, m2, ab_Wd_inv mt_ok hmi.1 ha hq m1 (by rw [h0.1]; exact hmi.2.1) (by rw [h0.2]; exact hmi.2.2) ?_, m4⟩
  rw [h0.1, h0.2]
  exact m3
/-- a call of a method that may spend, where nothing was spent before -/
theorem md_callX {c0 s0 : Nat} (hmi : mi ∈ mt_prog) {en : ax_EN} (ha : ax_at mi.2.2.2.2.2.2.2.2 pc = some en) {q : ax_MI × List Value × List Value} (hq : ax_inv mt_prog en.2.1 en.2.2.2.1 st h = some q) (h0 : q.1.2.2.2.2.2.2.1 = c0 ∧ q.1.2.2.2.2.2.2.2.1 = s0) (hb : c0 ≤ mi.2.2.2.2.2.2.1 ∧ s0 ≤ mi.2.2.2.2.2.2.2.1) (hp : pc + 3 = pc') (hM : mc_M l G d q.1 q.2.1 h n (fun r h' n' => mc_R l G mi d Q (pc', lv, r.toList ++ q.2.2, h', n', c0, s0))) : mc_R l G mi d Q (pc, lv, st, h, n, 0, 0) := by
  subst hp
  obtain ⟨o1, m1, o, m2, m3, m4⟩ := hM
  refine ⟨o, m2, ab_Wd_inv mt_ok hmi ha hq m1 (by rw [h0.1, Nat.zero_add]; exact hb.1) (by rw [h0.2, Nat.zero_add]; exact hb.2) ?_, m4⟩
  rw [h0.1, h0.2, Nat.zero_add, Nat.zero_add]
  exact m3
theorem md_bi (hmi : md_ok mi cs ss) {c : ClassFile.Cond} {off : Int} {pe : ax_PE} {hs : List Nat} {x y : Int32} (ha : ax_at mi.2.2.2.2.2.2.2.2 pc = some (pc, .if_icmp c off, len, pe, hs)) (ht : ax_to pc off = some tg) (hp : pc + 3 = pc') (hy : mc_h c x.toInt y.toInt → mc_R l G mi d Q (tg, lv, st, h, n, cs, ss)) (hn : ¬ mc_h c x.toInt y.toInt → mc_R l G mi d Q (pc', lv, st, h, n, cs, ss)) : mc_R l G mi d Q (pc, lv, .int y :: .int x :: st, h, n, cs, ss) := by
  subst hp
  by_cases q : ax_holds c x y
  · exact md_stp hmi ha (cx_brt (G := G) ht q cs ss) (hy (mc_hi.mp q))
  · exact md_stp hmi ha (cx_brf (G := G) ht q cs ss) (hn (fun w => q (mc_hi.mpr w)))
theorem md_bz (hmi : md_ok mi cs ss) {c : ClassFile.Cond} {off : Int} {pe : ax_PE} {hs : List Nat} {x : Int32} (ha : ax_at mi.2.2.2.2.2.2.2.2 pc = some (pc, .ifCond c off, len, pe, hs)) (ht : ax_to pc off = some tg) (hp : pc + 3 = pc') (hy : mc_h c x.toInt 0 → mc_R l G mi d Q (tg, lv, st, h, n, cs, ss)) (hn : ¬ mc_h c x.toInt 0 → mc_R l G mi d Q (pc', lv, st, h, n, cs, ss)) : mc_R l G mi d Q (pc, lv, .int x :: st, h, n, cs, ss) := by
  subst hp
  by_cases q : ax_holds c x 0
  · exact md_stp hmi ha (cx_brt (G := G) ht q cs ss) (hy (mc_hi.mp q))
  · exact md_stp hmi ha (cx_brf (G := G) ht q cs ss) (hn (fun w => q (mc_hi.mpr w)))
theorem md_getr (hmi : md_ok mi cs ss) (H : mc_HW h n) {k idx e ci j M c : Nat} {z : Int} {hs : List Nat} (ha : ax_at mi.2.2.2.2.2.2.2.2 pc = some (pc, .getfield idx, 3, (e, ci, j, z), hs)) (hk : Nat.blt k 573 = true) (hf : mc_ft k j = some (ci, .inr (some M))) (ho : ab_one M = some c) (hp : pc + 3 = pc') (hR : mc_R l G mi d Q (pc', lv, .ref c :: st, h, n, cs, ss)) : mc_R l G mi d Q (pc, lv, .ref k :: st, h, n, cs, ss) := by
  subst hp
  obtain ⟨fs, v, h1, h2, ⟨k', rfl, h3, h4⟩, -⟩ := mc_fld H hk hf
  obtain rfl := ab_one_ok ho h4
  refine md_stp hmi ha ?_ hR
  simp only [ax_step, ax_s_getf, h1, h2, beq_self_eq_true, cond_true, Option.map_some]
theorem md_geti (hmi : md_ok mi cs ss) (H : mc_HW h n) {k idx e ci j f : Nat} {lo hi z : Int} {hs : List Nat} (ha : ax_at mi.2.2.2.2.2.2.2.2 pc = some (pc, .getfield idx, 3, (e, ci, j, z), hs)) (hk : Nat.blt k 573 = true) (hf : mc_ft k j = some (ci, .inl (lo, hi, f))) (hp : pc + 3 = pc') (hR : ∀ x : Int32, x.toInt = ab_ri h k (j : Int) → lo ≤ x.toInt → x.toInt ≤ hi → mc_R l G mi d Q (pc', lv, .int x :: st, h, n, cs, ss)) : mc_R l G mi d Q (pc, lv, .ref k :: st, h, n, cs, ss) := by
  subst hp
  obtain ⟨fs, v, h1, h2, ⟨x, rfl, h3, h4, -⟩, h5⟩ := mc_fld H hk hf
  refine md_stp hmi ha ?_ (hR x ?_ h3 h4)
  · simp only [ax_step, ax_s_getf, h1, h2, beq_self_eq_true, cond_true, Option.map_some]
  · unfold ab_ri
    rw [h5]
theorem md_iald (hmi : md_ok mi cs ss) (H : mc_HW h n) {k N f : Nat} {lo hi : Int} {σ : List ab_Y} {hs : List Nat} {pe : ax_PE} {x : Int32} {i : Int} (ha : ax_at mi.2.2.2.2.2.2.2.2 pc = some (pc, .iaload, 1, pe, hs)) (hk : Nat.blt k 573 = true) (hf : ab_K[ab_k k]? = some (.inl (0, N, N, .inl (lo, hi, f), σ))) (hx : x.toInt = i) (h0 : 0 ≤ i) (hN : i < N) (hp : pc + 1 = pc') (hR : ∀ y : Int32, y.toInt = ab_ri h k i → lo ≤ y.toInt → y.toInt ≤ hi → mc_R l G mi d Q (pc', lv, .int y :: st, h, n, cs, ss)) : mc_R l G mi d Q (pc, lv, .int x :: .ref k :: st, h, n, cs, ss) := by
  subst hp
  obtain ⟨g, h1, h2, h3⟩ := mc_arr H hk hf rfl
  have hc := mc_clamp (x := x) (by omega)
  obtain ⟨⟨y, e1, e2, e3, -⟩, -, e4⟩ := h3 x.toNatClampNeg (by omega)
  refine md_stp hmi ha ?_ (hR y ?_ e2 e3)
  · simp only [ax_step, ax_s_iald, h1, beq_self_eq_true, mc_in (x := x) (N := N) (by omega) (by omega), Bool.and_self, cond_true, e1]
  · rw [hc, hx, e1] at e4
    unfold ab_ri
    rw [e4]
theorem md_iast (hmi : md_ok mi cs ss) (H : mc_HW h n) {k N : Nat} {lo hi : Int} {hs : List Nat} {pe : ax_PE} {x v : Int32} {i : Int} (ha : ax_at mi.2.2.2.2.2.2.2.2 pc = some (pc, .iastore, 1, pe, hs)) (hk : Nat.blt k 573 = true) (hf : ab_K[ab_k k]? = some (.inl (0, N, N, .inl (lo, hi, 0), []))) (hx : x.toInt = i) (h0 : 0 ≤ i) (hN : i < N) (h1 : lo ≤ v.toInt) (h2 : v.toInt ≤ hi) (hp : pc + 1 = pc') (hR : ∀ h' : ax_H, mc_HW h' n → (∀ (k' : Nat) (i' : Int), ab_rd h' k' i' = if k' = k ∧ i' = i then some (.int v) else ab_rd h k' i') → mc_R l G mi d Q (pc', lv, st, h', n, cs, ss)) : mc_R l G mi d Q (pc, lv, .int v :: .int x :: .ref k :: st, h, n, cs, ss) := by
  subst hp
  obtain ⟨g, r1, r2, r3⟩ := mc_arr H hk hf rfl
  have hc := mc_clamp (x := x) (by omega)
  refine md_stp hmi ha (h' := ax_hset h k (.inl (0, N, .inl ((x.toNatClampNeg, v) :: g)))) ?_ (hR _ ?_ ?_)
  · simp only [ax_step, ax_s_iast, r1, beq_self_eq_true, mc_in (x := x) (N := N) (by omega) (by omega), Bool.and_self, cond_true]
  · refine mc_HW_set H r1 fun S hS hcf => ?_
    rw [hf] at hS
    cases hS
    obtain ⟨b1, b2, b3, b4, b5, b6⟩ := hcf
    refine ⟨b1, b2, b3, b4, b5, fun j hj => ?_⟩
    have := b6 j hj
    by_cases hjx : j = x.toNatClampNeg
    · subst hjx
      have e : ax_fi ((x.toNatClampNeg, v) :: g) x.toNatClampNeg = v := by simp [ax_fi, upd]
      rw [e]
      exact ⟨⟨v, rfl, h1, h2, trivial⟩, ⟨v, rfl, h1, h2, trivial⟩⟩
    · have e : ax_fi ((x.toNatClampNeg, v) :: g) j = ax_fi g j := by simp [ax_fi, upd, hjx]
      rw [e]
      exact this
  · intro k' i'
    rw [ab_rd_ast r1, hc, hx]
theorem md_puti (hmi : md_ok mi cs ss) (H : mc_HW h n) {k idx e ci j : Nat} {lo hi z : Int} {hs : List Nat} {v : Int32} (ha : ax_at mi.2.2.2.2.2.2.2.2 pc = some (pc, .putfield idx, 3, (e, ci, j, z), hs)) (hk : Nat.blt k 573 = true) (hf : mc_ft k j = some (ci, .inl (lo, hi, 0))) (hb : ab_fitB (ax_ty ci j) (.inl (lo, hi, 0)) = true) (h1 : lo ≤ v.toInt) (h2 : v.toInt ≤ hi) (hp : pc + 3 = pc') (hR : ∀ h' : ax_H, mc_HW h' n → (∀ (k' : Nat) (i' : Int), ab_rd h' k' i' = if k' = k ∧ i' = (j : Int) then some (.int v) else ab_rd h k' i') → mc_R l G mi d Q (pc', lv, st, h', n, cs, ss)) : mc_R l G mi d Q (pc, lv, .int v :: .ref k :: st, h, n, cs, ss) := by
  subst hp
  obtain ⟨fs, w, r1, r2, r3, r4⟩ := mc_fld H hk hf
  have hj : j < fs.length := (List.getElem?_eq_some_iff.mp r2).1
  have hv : ab_ok n (.int v) (.inl (lo, hi, 0)) := ⟨v, rfl, h1, h2, trivial⟩
  refine md_stp hmi ha (h' := ax_hset h k (.inr (ci, fs.set j (.int v)))) ?_ (hR _ ?_ ?_)
  · have hjb : Nat.blt j fs.length = true := by simpa [Nat.blt_eq] using hj
    simp only [ax_step, ax_s_putf, r1, beq_self_eq_true, hjb, ab_fitB_ok hb hv, Bool.and_self, cond_true]
  · refine mc_HW_set H r1 fun S hS hcf => ?_
    unfold mc_ft at hf
    rw [hS] at hf
    rcases S with ⟨t, N1, N2, σ, σs⟩ | ⟨c, τs⟩
    · cases hf
    · obtain ⟨τ', e1, e2⟩ := Option.map_eq_some_iff.mp hf
      cases e2
      obtain ⟨b1, b2, b3⟩ := hcf
      refine ⟨b1, by rw [List.length_set]; exact b2, fun i u hu => ?_⟩
      by_cases ei : j = i
      · subst ei
        rw [List.getElem?_set_self hj] at hu
        cases hu
        exact ⟨_, e1, hv⟩
      · rw [List.getElem?_set_ne ei] at hu
        exact b3 i u hu
  · intro k' i'
    unfold ab_rd
    rw [ab_raw_set r1]
    by_cases ek : k' = k
    · subst ek
      rw [if_pos rfl, r1]
      by_cases hn : i' < 0
      · simp only [decide_eq_true hn, cond_true]
        rw [if_neg (by omega)]
      · simp only [decide_eq_false hn, cond_false]
        by_cases ei : i' = (j : Int)
        · subst ei
          rw [if_pos (⟨trivial, rfl⟩ : True ∧ (j : Int) = (j : Int))]
          exact List.getElem?_set_self hj
        · rw [if_neg (fun q => ei q.2), List.getElem?_set_ne (by omega)]
    · rw [if_neg ek, if_neg (fun q => ek q.1)]
end MD
section MD2
variable {l : Launch} {G : ax_T} {mi : ax_MI} {d : Nat} {Q : Option Value → ax_H → Nat → Prop} {pc pc' tg len : Nat} {lv : List (Nat × Value)} {st : List Value} {h : ax_H} {n cs ss : Nat}
theorem md_ci (hmi : md_ok mi cs ss) {c : ClassFile.Cond} {off : Int} {pe : ax_PE} {hs : List Nat} {x y : Int32} {a b : Int} (ha : ax_at mi.2.2.2.2.2.2.2.2 pc = some (pc, .if_icmp c off, len, pe, hs)) (ht : ax_to pc off = some tg) (hp : pc + 3 = pc') (hx : x.toInt = a) (hy : y.toInt = b) (kt : mc_h c a b → mc_R l G mi d Q (tg, lv, st, h, n, cs, ss)) (kn : mc_h (ab_ng c) a b → mc_R l G mi d Q (pc', lv, st, h, n, cs, ss)) : mc_R l G mi d Q (pc, lv, .int y :: .int x :: st, h, n, cs, ss) := by
  subst hx hy
  exact md_bi hmi ha ht hp kt (fun q => kn (mc_ng q))
theorem md_cz (hmi : md_ok mi cs ss) {c : ClassFile.Cond} {off : Int} {pe : ax_PE} {hs : List Nat} {x : Int32} {a : Int} (ha : ax_at mi.2.2.2.2.2.2.2.2 pc = some (pc, .ifCond c off, len, pe, hs)) (ht : ax_to pc off = some tg) (hp : pc + 3 = pc') (hx : x.toInt = a) (kt : mc_h c a 0 → mc_R l G mi d Q (tg, lv, st, h, n, cs, ss)) (kn : mc_h (ab_ng c) a 0 → mc_R l G mi d Q (pc', lv, st, h, n, cs, ss)) : mc_R l G mi d Q (pc, lv, .int x :: st, h, n, cs, ss) := by
  subst hx
  exact md_bz hmi ha ht hp kt (fun q => kn (mc_ng q))
end MD2
theorem md_lvs {l : Launch} {G : ax_T} {mi : ax_MI} {d : Nat} {Q : Option Value → ax_H → Nat → Prop} {pc : Nat} {lv lv' : List (Nat × Value)} {st : List Value} {h : ax_H} {n cs ss : Nat} (hs : ∀ q ∈ lv', q ∈ lv) (hR : mc_R l G mi d Q (pc, lv', st, h, n, cs, ss)) : mc_R l G mi d Q (pc, lv, st, h, n, cs, ss) := by
  obtain ⟨o, h1, h2, h3⟩ := hR
  refine ⟨o, h1, ?_, h3⟩
  intro p e s m args below meth c M hnm hrt ls H locs hl hR' hL
  refine h2 p e s m args below meth c M hnm hrt ls H locs ⟨hl.1, hl.2.1, fun q hq => ?_⟩ hR' hL
  obtain ⟨z, hz, rfl⟩ := List.mem_map.mp hq
  exact hl.2.2 _ (List.mem_map.mpr ⟨z, hs z hz, rfl⟩)
theorem md_callP {l : Launch} {G : ax_T} {mi : ax_MI} {d : Nat} {Q : Option Value → ax_H → Nat → Prop} {pc pc' : Nat} {lv : List (Nat × Value)} {st : List Value} {h : ax_H} {n cs ss : Nat} (hmi : md_ok mi cs ss) {en : ax_EN} (ha : ax_at mi.2.2.2.2.2.2.2.2 pc = some en) {q : ax_MI × List Value × List Value} (hq : ax_inv mt_prog en.2.1 en.2.2.2.1 st h = some q) (h0 : q.1.2.2.2.2.2.2.1 = 0 ∧ q.1.2.2.2.2.2.2.2.1 = 0) (hp : pc + 3 = pc') {P : Int32 → Prop} (hM : mc_M l G d q.1 q.2.1 h n (mc_P h n P)) (kk : ∀ y : Int32, P y → mc_R l G mi d Q (pc', lv, .int y :: q.2.2, h, n, cs, ss)) : mc_R l G mi d Q (pc, lv, st, h, n, cs, ss) := by
  refine md_call hmi ha hq h0 hp (mc_mono hM ?_)
  intro r h' n' hP
  obtain ⟨e1, e2, y, e3, e4⟩ := hP
  rw [e1, e2, e3]
  exact kk y e4
theorem md_getrC {l : Launch} {G : ax_T} {mi : ax_MI} {d : Nat} {Q : Option Value → ax_H → Nat → Prop} {pc pc' : Nat} {lv : List (Nat × Value)} {st : List Value} {h : ax_H} {n cs ss : Nat} (hmi : md_ok mi cs ss) (H : mc_HW h n) {k c idx e ci j M : Nat} {z : Int} {hs : List Nat} (ha : ax_at mi.2.2.2.2.2.2.2.2 pc = some (pc, .getfield idx, 3, (e, ci, j, z), hs)) (hk : Nat.blt k 573 = true) (hf : mc_ft k j = some (ci, .inr (some M))) (hr : ab_rd h k (j : Int) = some (.ref c)) (hp : pc + 3 = pc') (hR : mc_R l G mi d Q (pc', lv, .ref c :: st, h, n, cs, ss)) : mc_R l G mi d Q (pc, lv, .ref k :: st, h, n, cs, ss) := by
  subst hp
  obtain ⟨fs, v, h1, h2, -, h5⟩ := mc_fld H hk hf
  have e : v = .ref c := Option.some.inj (h5.symm.trans hr)
  subst e
  refine md_stp hmi ha ?_ hR
  simp only [ax_step, ax_s_getf, h1, h2, beq_self_eq_true, cond_true, Option.map_some]
/-- any value that fits is put into a field -/
theorem md_putv {l : Launch} {G : ax_T} {mi : ax_MI} {d : Nat} {Q : Option Value → ax_H → Nat → Prop} {pc pc' : Nat} {lv : List (Nat × Value)} {st : List Value} {h : ax_H} {n cs ss : Nat} (hmi : md_ok mi cs ss) (H : mc_HW h n) {k idx e ci j : Nat} {τ : ab_Y} {z : Int} {hs : List Nat} {v : Value} (ha : ax_at mi.2.2.2.2.2.2.2.2 pc = some (pc, .putfield idx, 3, (e, ci, j, z), hs)) (hk : Nat.blt k 573 = true) (hf : mc_ft k j = some (ci, τ)) (hb : ab_fitB (ax_ty ci j) τ = true) (hv : ab_ok n v τ) (hp : pc + 3 = pc') (hR : ∀ h' : ax_H, mc_HW h' n → (∀ (k' : Nat) (i' : Int), ab_rd h' k' i' = if k' = k ∧ i' = (j : Int) then some v else ab_rd h k' i') → mc_R l G mi d Q (pc', lv, st, h', n, cs, ss)) : mc_R l G mi d Q (pc, lv, v :: .ref k :: st, h, n, cs, ss) := by
  subst hp
  obtain ⟨fs, w, r1, r2, r3, r4⟩ := mc_fld H hk hf
  have hj : j < fs.length := (List.getElem?_eq_some_iff.mp r2).1
  refine md_stp hmi ha (h' := ax_hset h k (.inr (ci, fs.set j v))) ?_ (hR _ ?_ ?_)
  · have hjb : Nat.blt j fs.length = true := by simpa [Nat.blt_eq] using hj
    simp only [ax_step, ax_s_putf, r1, beq_self_eq_true, hjb, ab_fitB_ok hb hv, Bool.and_self, cond_true]
  · refine mc_HW_set H r1 fun S hS hcf => ?_
    unfold mc_ft at hf
    rw [hS] at hf
    rcases S with ⟨t, N1, N2, σ, σs⟩ | ⟨c, τs⟩
    · cases hf
    · obtain ⟨τ', e1, e2⟩ := Option.map_eq_some_iff.mp hf
      cases e2
      obtain ⟨b1, b2, b3⟩ := hcf
      refine ⟨b1, by rw [List.length_set]; exact b2, fun i u hu => ?_⟩
      by_cases ei : j = i
      · subst ei
        rw [List.getElem?_set_self hj] at hu
        cases hu
        exact ⟨_, e1, hv⟩
      · rw [List.getElem?_set_ne ei] at hu
        exact b3 i u hu
  · intro k' i'
    unfold ab_rd
    rw [ab_raw_set r1]
    by_cases ek : k' = k
    · subst ek
      rw [if_pos rfl, r1]
      by_cases hn : i' < 0
      · simp only [decide_eq_true hn, cond_true]
        rw [if_neg (by omega)]
      · simp only [decide_eq_false hn, cond_false]
        by_cases ei : i' = (j : Int)
        · subst ei
          rw [if_pos (⟨trivial, rfl⟩ : True ∧ (j : Int) = (j : Int))]
          exact List.getElem?_set_self hj
        · rw [if_neg (fun q => ei q.2), List.getElem?_set_ne (by omega)]
    · rw [if_neg ek, if_neg (fun q => ek q.1)]
/-- the worths' array: as long as its kind says -/
theorem dy_arr {h : ax_H} {n w : Nat} (H : mc_HW h n) (hw : w < n) (hk : ab_k w = 34) : ∃ (N : Nat) (f : List (Nat × Int32)), ax_raw h w = some (.inl (0, N, .inl f)) ∧ 1 ≤ N ∧ N ≤ 41160 ∧ ab_ri h w (-1) = (N : Int) ∧ ∀ i : Nat, ab_rd h w (i : Int) = some (.int (ax_fi f i)) := by
  obtain ⟨dd, S, h1, h2, h3⟩ := H.2.1 w hw
  have e34 : ab_K[34]? = some (.inl (0, 1, 41160, .inl (-2147483648, 2147483647, 0), [])) := rfl
  rw [hk, e34] at h2
  cases h2
  rcases dd with ⟨t', M, f | f⟩ | ⟨c', fs⟩
  · obtain ⟨rfl, b2, b3, b4, b5, b6⟩ := h3
    refine ⟨M, f, h1, b3, b4, ?_, fun i => ?_⟩
    · unfold ab_ri ab_rd
      rw [h1]
      show (Int32.ofNat M).toInt = (M : Int)
      exact ab_ofN (by omega)
    · unfold ab_rd
      rw [h1]
      show (bif decide ((i : Int) < 0) then _ else some (Value.int (ax_fi f (i : Int).toNat))) = _
      rw [decide_eq_false (by omega)]
      rfl
  · exact absurd h3.2.1 (by omega)
  · exact h3.elim
section DY
variable {l : Launch} {G : ax_T} {mi : ax_MI} {d : Nat} {Q : Option Value → ax_H → Nat → Prop} {pc pc' : Nat} {lv : List (Nat × Value)} {st : List Value} {h : ax_H} {n cs ss : Nat}
theorem md_walen (hmi : md_ok mi cs ss) (H : mc_HW h n) {w : Nat} (hw : w < n) (hk : ab_k w = 34) {pe : ax_PE} {hs : List Nat} (ha : ax_at mi.2.2.2.2.2.2.2.2 pc = some (pc, .arraylength, 1, pe, hs)) (hp : pc + 1 = pc') (hR : ∀ y : Int32, y.toInt = ab_ri h w (-1) → mc_R l G mi d Q (pc', lv, .int y :: st, h, n, cs, ss)) : mc_R l G mi d Q (pc, lv, .ref w :: st, h, n, cs, ss) := by
  subst hp
  obtain ⟨N, f, h1, h2, h3, h4, -⟩ := dy_arr H hw hk
  refine md_stp hmi ha ?_ (hR (Int32.ofNat N) (by rw [h4]; exact ab_ofN (by omega)))
  simp only [ax_step, ax_s_alen, h1, show Nat.blt 0 2 = true from rfl, cond_true]
theorem md_iwald (hmi : md_ok mi cs ss) (H : mc_HW h n) {w : Nat} (hw : w < n) (hk : ab_k w = 34) {pe : ax_PE} {hs : List Nat} {x : Int32} {i : Int} (ha : ax_at mi.2.2.2.2.2.2.2.2 pc = some (pc, .iaload, 1, pe, hs)) (hx : x.toInt = i) (h0 : 0 ≤ i) (hN : i < ab_ri h w (-1)) (hp : pc + 1 = pc') (hR : ∀ y : Int32, y.toInt = ab_ri h w i → mc_R l G mi d Q (pc', lv, .int y :: st, h, n, cs, ss)) : mc_R l G mi d Q (pc, lv, .int x :: .ref w :: st, h, n, cs, ss) := by
  subst hp
  obtain ⟨N, f, h1, h2, h3, h4, h5⟩ := dy_arr H hw hk
  have hc := mc_clamp (x := x) (by omega)
  have e := h5 x.toNatClampNeg
  refine md_stp hmi ha ?_ (hR (ax_fi f x.toNatClampNeg) ?_)
  · simp only [ax_step, ax_s_iald, h1, beq_self_eq_true, mc_in (x := x) (N := N) (by omega) (by omega), Bool.and_self, cond_true]
  · rw [hc, hx] at e
    unfold ab_ri
    rw [e]
theorem md_iwast (hmi : md_ok mi cs ss) (H : mc_HW h n) {w : Nat} (hw : w < n) (hk : ab_k w = 34) {pe : ax_PE} {hs : List Nat} {x v : Int32} {i : Int} (ha : ax_at mi.2.2.2.2.2.2.2.2 pc = some (pc, .iastore, 1, pe, hs)) (hx : x.toInt = i) (h0 : 0 ≤ i) (hN : i < ab_ri h w (-1)) (hp : pc + 1 = pc') (hR : ∀ h' : ax_H, mc_HW h' n → (∀ (k' : Nat) (i' : Int), ab_rd h' k' i' = if k' = w ∧ i' = i then some (.int v) else ab_rd h k' i') → mc_R l G mi d Q (pc', lv, st, h', n, cs, ss)) : mc_R l G mi d Q (pc, lv, .int v :: .int x :: .ref w :: st, h, n, cs, ss) := by
  subst hp
  obtain ⟨N, g, r1, h2, h3, h4, h5⟩ := dy_arr H hw hk
  have hc := mc_clamp (x := x) (by omega)
  refine md_stp hmi ha (h' := ax_hset h w (.inl (0, N, .inl ((x.toNatClampNeg, v) :: g)))) ?_ (hR _ ?_ ?_)
  · simp only [ax_step, ax_s_iast, r1, beq_self_eq_true, mc_in (x := x) (N := N) (by omega) (by omega), Bool.and_self, cond_true]
  · refine mc_HW_set H r1 fun S hS hcf => ?_
    have e34 : ab_K[34]? = some (.inl (0, 1, 41160, .inl (-2147483648, 2147483647, 0), [])) := rfl
    rw [hk, e34] at hS
    cases hS
    obtain ⟨b1, b2, b3, b4, b5, b6⟩ := hcf
    refine ⟨b1, b2, b3, b4, b5, fun j hj => ?_⟩
    have := b6 j hj
    by_cases hjx : j = x.toNatClampNeg
    · subst hjx
      have e : ax_fi ((x.toNatClampNeg, v) :: g) x.toNatClampNeg = v := by simp [ax_fi, upd]
      rw [e]
      have h1 := Int32.le_toInt v
      have h2 := Int32.toInt_lt v
      exact ⟨⟨v, rfl, by omega, by omega, trivial⟩, ⟨v, rfl, by omega, by omega, trivial⟩⟩
    · have e : ax_fi ((x.toNatClampNeg, v) :: g) j = ax_fi g j := by simp [ax_fi, upd, hjx]
      rw [e]
      exact this
  · intro k' i'
    rw [ab_rd_ast r1, hc, hx]
theorem mc_walen (hmi : mi ∈ mt_prog) (H : mc_HW h n) {w : Nat} (hw : w < n) (hk : ab_k w = 34) {pe : ax_PE} {hs : List Nat} (ha : ax_at mi.2.2.2.2.2.2.2.2 pc = some (pc, .arraylength, 1, pe, hs)) (hp : pc + 1 = pc') (hR : ∀ y : Int32, y.toInt = ab_ri h w (-1) → mc_R l G mi d Q (pc', lv, .int y :: st, h, n, 0, 0)) : mc_R l G mi d Q (pc, lv, .ref w :: st, h, n, 0, 0) := md_walen ⟨hmi, Nat.zero_le _, Nat.zero_le _⟩ H hw hk ha hp hR
theorem mc_iwald (hmi : mi ∈ mt_prog) (H : mc_HW h n) {w : Nat} (hw : w < n) (hk : ab_k w = 34) {pe : ax_PE} {hs : List Nat} {x : Int32} {i : Int} (ha : ax_at mi.2.2.2.2.2.2.2.2 pc = some (pc, .iaload, 1, pe, hs)) (hx : x.toInt = i) (h0 : 0 ≤ i) (hN : i < ab_ri h w (-1)) (hp : pc + 1 = pc') (hR : ∀ y : Int32, y.toInt = ab_ri h w i → mc_R l G mi d Q (pc', lv, .int y :: st, h, n, 0, 0)) : mc_R l G mi d Q (pc, lv, .int x :: .ref w :: st, h, n, 0, 0) := md_iwald ⟨hmi, Nat.zero_le _, Nat.zero_le _⟩ H hw hk ha hx h0 hN hp hR
theorem mc_iwast (hmi : mi ∈ mt_prog) (H : mc_HW h n) {w : Nat} (hw : w < n) (hk : ab_k w = 34) {pe : ax_PE} {hs : List Nat} {x v : Int32} {i : Int} (ha : ax_at mi.2.2.2.2.2.2.2.2 pc = some (pc, .iastore, 1, pe, hs)) (hx : x.toInt = i) (h0 : 0 ≤ i) (hN : i < ab_ri h w (-1)) (hp : pc + 1 = pc') (hR : ∀ h' : ax_H, mc_HW h' n → (∀ (k' : Nat) (i' : Int), ab_rd h' k' i' = if k' = w ∧ i' = i then some (.int v) else ab_rd h k' i') → mc_R l G mi d Q (pc', lv, st, h', n, 0, 0)) : mc_R l G mi d Q (pc, lv, .int v :: .int x :: .ref w :: st, h, n, 0, 0) := md_iwast ⟨hmi, Nat.zero_le _, Nat.zero_le _⟩ H hw hk ha hx h0 hN hp hR
/-- a new array of ints -/
theorem md_newa (hmi : mi ∈ mt_prog) (H : mc_HW h n) {ci j : Nat} {z : Int} {hs : List Nat} {x : Int32} {N : Nat} (ha : ax_at mi.2.2.2.2.2.2.2.2 pc = some (pc, .newarray .int, 2, (5, 0, j, z), hs)) (hx : x.toInt = (N : Int)) (h1 : 1 ≤ N) (h2 : N ≤ 41160) (hc : 1 ≤ mi.2.2.2.2.2.2.1 ∧ N ≤ mi.2.2.2.2.2.2.2.1) (hp : pc + 2 = pc') (hR : ∀ h' : ax_H, mc_HW h' (n + 1) → (∀ (k' : Nat) (i' : Int), k' < n → ab_rd h' k' i' = ab_rd h k' i') → ab_ri h' n (-1) = (N : Int) → (∀ i : Nat, ab_ri h' n (i : Int) = 0) → mc_R l G mi d Q (pc', lv, .ref n :: st, h', n + 1, 1, N)) : mc_R l G mi d Q (pc, lv, .int x :: st, h, n, 0, 0) := by
  subst hp
  have hcl := mc_clamp (x := x) (by omega)
  have hN : x.toNatClampNeg = N := by omega
  have hr := ab_raw_push2 (h := h) (n := n) H.2.2 (.inl (0, N, .inl []))
  have hk : ab_k n = 34 := ab_k_new H.1
  have HW' : mc_HW (ax_hpush h n (.inl (0, N, .inl []))) (n + 1) := by
    refine ⟨by have := H.1; omega, fun k hk' => ?_, ab_sh_push H.2.2 _⟩
    rw [hr k]
    by_cases e : k = n
    · subst e
      refine ⟨.inl (0, N, .inl []), .inl (0, 1, 41160, .inl (-2147483648, 2147483647, 0), []), by rw [if_pos rfl], by rw [hk]; rfl, rfl, by decide, h1, h2, by decide, fun i hi => ?_⟩
      exact ⟨⟨0, rfl, by decide, by decide, trivial⟩, ⟨0, rfl, by decide, by decide, trivial⟩⟩
    · obtain ⟨dd, S, a1, a2, a3⟩ := H.2.1 k (by omega)
      exact ⟨dd, S, by rw [if_neg e]; exact a1, a2, ab_cf_mono (Nat.le_succ n) a3⟩
  obtain ⟨o, r1, r2, r3⟩ := hR _ HW' (fun k' i' hk' => by unfold ab_rd; rw [hr k', if_neg (by omega)]) (by
    unfold ab_ri ab_rd
    rw [hr n, if_pos rfl]
    show (Int32.ofNat N).toInt = (N : Int)
    exact ab_ofN (by omega)) (fun i => by
    unfold ab_ri ab_rd
    rw [hr n, if_pos rfl]
    show (match (bif decide ((i : Int) < 0) then some (Value.int (Int32.ofNat N)) else some (Value.int (ax_fi [] (i : Int).toNat))) with
      | some (.int x) => x.toInt
      | _ => 0) = 0
    rw [decide_eq_false (by omega)]
    rfl)
  refine ⟨o, r1, ab_Wd_step mt_ok hmi ha (F := (pc + 2, lv, .ref n :: st, ax_hpush h n (.inl (0, N, .inl [])), n + 1, 1, N)) ?_ hc.1 hc.2 r2, r3⟩
  simp only [ax_step, ax_s_newa, hN, decide_eq_true (show 0 ≤ x.toInt by omega), decide_eq_true (show N * 8 ≤ 536870912 by omega), Bool.and_self, cond_true, Nat.zero_add]
end DY
end
section
/-! ===== the machine's rows over the table without costs (printed by wip/v2/mk98b.py) ===== -/
section CZ
variable {l : Launch} {G : ax_T} {mi : ax_MI} {d : Nat} {o : ax_O}
theorem cz_ok (hmi : mi ∈ z_prog) : ∀ (k : Nat) {F F' : ax_F}, cx G mi k F = some F' → ab_Wd l G mi d o F' → ab_Wd l G mi d o F
  | 0, F, F', h, hW => by cases h; exact hW
  | k + 1, F, F', h, hW => by
    unfold cx at h
    split at h
    · cases h
    · rename_i en ha
      split at h
      · rename_i F1 h1
        obtain ⟨hb, h2⟩ := ab_bif h
        simp only [Bool.and_eq_true, Nat.ble_eq] at hb
        exact ab_Wd_step z_ok hmi ha h1 hb.1 hb.2 (cz_ok hmi k h2 hW)
      · cases h
variable {pc tg len : Nat} {lv : List (Nat × Value)} {st : List Value} {h : ax_H} {n : Nat}
theorem cz_call (hmi : mi ∈ z_prog) {en : ax_EN} (ha : ax_at mi.2.2.2.2.2.2.2.2 pc = some en) {q : ax_MI × List Value × List Value} (hq : ax_inv z_prog en.2.1 en.2.2.2.1 st h = some q) (h0 : q.1.2.2.2.2.2.2.1 = 0 ∧ q.1.2.2.2.2.2.2.2.1 = 0) {o1 : ax_O} (hM : ab_M l G d q.1 q.2.1 h n o1) (hW : ab_Wd l G mi d o (pc + 3, lv, o1.1.toList ++ q.2.2, o1.2.1, o1.2.2, 0, 0)) : ab_Wd l G mi d o (pc, lv, st, h, n, 0, 0) := by
  refine ab_Wd_inv z_ok hmi ha hq hM ?_ ?_ ?_
  · rw [h0.1]; exact Nat.zero_le _
  · rw [h0.2]; exact Nat.zero_le _
  · rw [h0.1, h0.2]; exact hW
end CZ
section MZ
variable {l : Launch} {G : ax_T} {mi : ax_MI} {d : Nat} {Q : Option Value → ax_H → Nat → Prop} {pc pc' tg len : Nat} {lv : List (Nat × Value)} {st : List Value} {h : ax_H} {n : Nat}
theorem mz_to (hmi : mi ∈ z_prog) {as : List Value} (hlen : Nat.ble (lg_sl as).length mi.2.2.2.1 = true) (hR : mc_R l G mi d Q (0, lv_args 0 as, [], h, n, 0, 0)) : mc_M l G (d + 1) mi as h n Q := by
  obtain ⟨o, h1, h2, h3⟩ := hR
  exact ⟨o, ab_Wd_call z_ok hmi (by simpa [Nat.ble_eq] using hlen) h1 h2, h3⟩
theorem mz_cx (hmi : mi ∈ z_prog) (k : Nat) {F F' : ax_F} (hc : cx G mi k F = some F') (hR : mc_R l G mi d Q F') : mc_R l G mi d Q F := by
  obtain ⟨o, h1, h2, h3⟩ := hR
  exact ⟨o, h1, cz_ok hmi k hc h2, h3⟩
theorem mz_stp (hmi : mi ∈ z_prog) {en : ax_EN} (ha : ax_at mi.2.2.2.2.2.2.2.2 pc = some en) {lv' : List (Nat × Value)} {st' : List Value} {h' : ax_H} (hs : ax_step (ab_io G) mi.2.2.2.1 en.2.1 en.2.2.2.1 pc lv st h n 0 0 = some (pc', lv', st', h', n, 0, 0)) (hR : mc_R l G mi d Q (pc', lv', st', h', n, 0, 0)) : mc_R l G mi d Q (pc, lv, st, h, n, 0, 0) := by
  obtain ⟨o, h1, h2, h3⟩ := hR
  exact ⟨o, h1, ab_Wd_step z_ok hmi ha hs (Nat.zero_le _) (Nat.zero_le _) h2, h3⟩
theorem mz_ret (hmi : mi ∈ z_prog) {en : ax_EN} (ha : ax_at mi.2.2.2.2.2.2.2.2 pc = some en) {r : Option Value} (hr : ax_rets en.2.1 st = some r) (ht : ax_retT mi.2.2.2.2.1 r = true) (hQ : Q r h n) : mc_R l G mi d Q (pc, lv, st, h, n, 0, 0) :=
  ⟨(r, h, n), ht, ab_Wd_ret z_ok hmi ha hr ht (Nat.zero_le _) (Nat.zero_le _), hQ⟩
theorem mz_bi (hmi : mi ∈ z_prog) {c : ClassFile.Cond} {off : Int} {pe : ax_PE} {hs : List Nat} {x y : Int32} (ha : ax_at mi.2.2.2.2.2.2.2.2 pc = some (pc, .if_icmp c off, len, pe, hs)) (ht : ax_to pc off = some tg) (hp : pc + 3 = pc') (hy : mc_h c x.toInt y.toInt → mc_R l G mi d Q (tg, lv, st, h, n, 0, 0)) (hn : ¬ mc_h c x.toInt y.toInt → mc_R l G mi d Q (pc', lv, st, h, n, 0, 0)) : mc_R l G mi d Q (pc, lv, .int y :: .int x :: st, h, n, 0, 0) := by
  subst hp
  by_cases q : ax_holds c x y
  · exact mz_stp hmi ha (cx_brt (G := G) ht q 0 0) (hy (mc_hi.mp q))
  · exact mz_stp hmi ha (cx_brf (G := G) ht q 0 0) (hn (fun w => q (mc_hi.mpr w)))
theorem mz_bz (hmi : mi ∈ z_prog) {c : ClassFile.Cond} {off : Int} {pe : ax_PE} {hs : List Nat} {x : Int32} (ha : ax_at mi.2.2.2.2.2.2.2.2 pc = some (pc, .ifCond c off, len, pe, hs)) (ht : ax_to pc off = some tg) (hp : pc + 3 = pc') (hy : mc_h c x.toInt 0 → mc_R l G mi d Q (tg, lv, st, h, n, 0, 0)) (hn : ¬ mc_h c x.toInt 0 → mc_R l G mi d Q (pc', lv, st, h, n, 0, 0)) : mc_R l G mi d Q (pc, lv, .int x :: st, h, n, 0, 0) := by
  subst hp
  by_cases q : ax_holds c x 0
  · exact mz_stp hmi ha (cx_brt (G := G) ht q 0 0) (hy (mc_hi.mp q))
  · exact mz_stp hmi ha (cx_brf (G := G) ht q 0 0) (hn (fun w => q (mc_hi.mpr w)))
theorem mz_getr (hmi : mi ∈ z_prog) (H : mc_HW h n) {k idx e ci j M c : Nat} {z : Int} {hs : List Nat} (ha : ax_at mi.2.2.2.2.2.2.2.2 pc = some (pc, .getfield idx, 3, (e, ci, j, z), hs)) (hk : Nat.blt k 573 = true) (hf : mc_ft k j = some (ci, .inr (some M))) (ho : ab_one M = some c) (hp : pc + 3 = pc') (hR : mc_R l G mi d Q (pc', lv, .ref c :: st, h, n, 0, 0)) : mc_R l G mi d Q (pc, lv, .ref k :: st, h, n, 0, 0) := by
  subst hp
  obtain ⟨fs, v, h1, h2, ⟨k', rfl, h3, h4⟩, -⟩ := mc_fld H hk hf
  obtain rfl := ab_one_ok ho h4
  refine mz_stp hmi ha ?_ hR
  simp only [ax_step, ax_s_getf, h1, h2, beq_self_eq_true, cond_true, Option.map_some]
theorem mz_geti (hmi : mi ∈ z_prog) (H : mc_HW h n) {k idx e ci j f : Nat} {lo hi z : Int} {hs : List Nat} (ha : ax_at mi.2.2.2.2.2.2.2.2 pc = some (pc, .getfield idx, 3, (e, ci, j, z), hs)) (hk : Nat.blt k 573 = true) (hf : mc_ft k j = some (ci, .inl (lo, hi, f))) (hp : pc + 3 = pc') (hR : ∀ x : Int32, x.toInt = ab_ri h k (j : Int) → lo ≤ x.toInt → x.toInt ≤ hi → mc_R l G mi d Q (pc', lv, .int x :: st, h, n, 0, 0)) : mc_R l G mi d Q (pc, lv, .ref k :: st, h, n, 0, 0) := by
  subst hp
  obtain ⟨fs, v, h1, h2, ⟨x, rfl, h3, h4, -⟩, h5⟩ := mc_fld H hk hf
  refine mz_stp hmi ha ?_ (hR x ?_ h3 h4)
  · simp only [ax_step, ax_s_getf, h1, h2, beq_self_eq_true, cond_true, Option.map_some]
  · unfold ab_ri
    rw [h5]
theorem mz_call (hmi : mi ∈ z_prog) {en : ax_EN} (ha : ax_at mi.2.2.2.2.2.2.2.2 pc = some en) {q : ax_MI × List Value × List Value} (hq : ax_inv z_prog en.2.1 en.2.2.2.1 st h = some q) (h0 : q.1.2.2.2.2.2.2.1 = 0 ∧ q.1.2.2.2.2.2.2.2.1 = 0) (hp : pc + 3 = pc') (hM : mc_M l G d q.1 q.2.1 h n (fun r h' n' => mc_R l G mi d Q (pc', lv, r.toList ++ q.2.2, h', n', 0, 0))) : mc_R l G mi d Q (pc, lv, st, h, n, 0, 0) := by
  subst hp
  obtain ⟨o1, m1, o, m2, m3, m4⟩ := hM
  exact ⟨o, m2, cz_call hmi ha hq h0 m1 m3, m4⟩
theorem mz_ci (hmi : mi ∈ z_prog) {c : ClassFile.Cond} {off : Int} {pe : ax_PE} {hs : List Nat} {x y : Int32} {a b : Int} (ha : ax_at mi.2.2.2.2.2.2.2.2 pc = some (pc, .if_icmp c off, len, pe, hs)) (ht : ax_to pc off = some tg) (hp : pc + 3 = pc') (hx : x.toInt = a) (hy : y.toInt = b) (kt : mc_h c a b → mc_R l G mi d Q (tg, lv, st, h, n, 0, 0)) (kn : mc_h (ab_ng c) a b → mc_R l G mi d Q (pc', lv, st, h, n, 0, 0)) : mc_R l G mi d Q (pc, lv, .int y :: .int x :: st, h, n, 0, 0) := by
  subst hx hy
  exact mz_bi hmi ha ht hp kt (fun q => kn (mc_ng q))
theorem mz_cz (hmi : mi ∈ z_prog) {c : ClassFile.Cond} {off : Int} {pe : ax_PE} {hs : List Nat} {x : Int32} {a : Int} (ha : ax_at mi.2.2.2.2.2.2.2.2 pc = some (pc, .ifCond c off, len, pe, hs)) (ht : ax_to pc off = some tg) (hp : pc + 3 = pc') (hx : x.toInt = a) (kt : mc_h c a 0 → mc_R l G mi d Q (tg, lv, st, h, n, 0, 0)) (kn : mc_h (ab_ng c) a 0 → mc_R l G mi d Q (pc', lv, st, h, n, 0, 0)) : mc_R l G mi d Q (pc, lv, .int x :: st, h, n, 0, 0) := by
  subst hx
  exact mz_bz hmi ha ht hp kt (fun q => kn (mc_ng q))
end MZ
theorem mz_callP {l : Launch} {G : ax_T} {mi : ax_MI} {d : Nat} {Q : Option Value → ax_H → Nat → Prop} {pc pc' : Nat} {lv : List (Nat × Value)} {st : List Value} {h : ax_H} {n : Nat} (hmi : mi ∈ z_prog) {en : ax_EN} (ha : ax_at mi.2.2.2.2.2.2.2.2 pc = some en) {q : ax_MI × List Value × List Value} (hq : ax_inv z_prog en.2.1 en.2.2.2.1 st h = some q) (h0 : q.1.2.2.2.2.2.2.1 = 0 ∧ q.1.2.2.2.2.2.2.2.1 = 0) (hp : pc + 3 = pc') {P : Int32 → Prop} (hM : mc_M l G d q.1 q.2.1 h n (mc_P h n P)) (kk : ∀ y : Int32, P y → mc_R l G mi d Q (pc', lv, .int y :: q.2.2, h, n, 0, 0)) : mc_R l G mi d Q (pc, lv, st, h, n, 0, 0) := by
  refine mz_call hmi ha hq h0 hp (mc_mono hM ?_)
  intro r h' n' hP
  obtain ⟨e1, e2, y, e3, e4⟩ := hP
  rw [e1, e2, e3]
  exact kk y e4
theorem mz_inv {h : ax_H} {n : Nat} {st : List Value} (H : mc_HW h n) {idx j k ci : Nat} {e : Nat} {z : Int} {mj : ax_MI} {as rest : List Value} {τs : List ab_Y} (hj : mt_prog[j]? = some mj) (hp : ax_pop mj.2.2.2.2.2.1 st = some (as, .ref k :: rest)) (hk : Nat.blt k 573 = true) (hf : ab_K[ab_k k]? = some (.inr (ci, τs))) (hs : Nat.ble (ax_sum rest) 8 = true) : ax_inv z_prog (.invokevirtual idx) (e, j, ci, z) st h = some (zz mj, .ref k :: as, rest) := by
  have hk' : k < 573 := by simpa [Nat.blt_eq] using hk
  have hp' : ax_pop (zz mj).2.2.2.2.2.1 st = some (as, .ref k :: rest) := hp
  obtain ⟨d, S, h1, h2, h3⟩ := H.2.1 k (Nat.lt_of_lt_of_le hk' H.1)
  rw [hf] at h2
  cases h2
  rcases d with ⟨t', N, f | f⟩ | ⟨c', fs⟩
  · exact h3.elim
  · exact h3.elim
  · obtain ⟨rfl, -⟩ := h3
    simp only [ax_inv, zz_get hj, hp', h1, beq_self_eq_true, hs, Bool.and_self, cond_true]
end
