/-! ===== by hand: room for the stone's worths ===== -/
theorem ab_raw_push2 {h : ax_H} {n : Nat} (hs : ab_sh h n) (c : ax_D) (j : Nat) : ax_raw (ax_hpush h n c) j = if j = n then some c else ax_raw h j := by
  obtain ⟨h1, h2, h3⟩ := hs
  have e1 : ((h.getD (n / 32) []).length == n % 32) = true := by rw [h1]; exact beq_self_eq_true _
  unfold ax_hpush
  rw [e1]
  simp only [cond_true]
  by_cases hl : n / 32 < h.length
  · have e2 : Nat.blt (n / 32) h.length = true := by simpa [Nat.blt_eq] using hl
    rw [e2]
    simp only [cond_true]
    unfold ax_raw
    by_cases q : j / 32 = n / 32
    · rw [q, List.getD_eq_getElem?_getD, List.getElem?_set_self hl, Option.getD_some]
      by_cases q2 : j % 32 < n % 32
      · rw [if_neg (fun e => by rw [e] at q2; omega), List.getElem?_append_left (by rw [h1]; exact q2)]
      · rw [List.getElem?_append_right (by rw [h1]; omega), h1]
        by_cases q3 : j % 32 = n % 32
        · rw [if_pos (ax_dm q q3), q3, Nat.sub_self]
          rfl
        · rw [if_neg (fun e => q3 (by rw [e])), List.getElem?_eq_none (by simp only [List.length_singleton]; omega), List.getElem?_eq_none (by rw [h1]; omega)]
    · rw [if_neg (fun e => q (by rw [e])), List.getD_eq_getElem?_getD, List.getElem?_set_ne (fun e => q e.symm), ← List.getD_eq_getElem?_getD]
  · have e2 : Nat.blt (n / 32) h.length = false := by
      rw [Bool.eq_false_iff]
      intro hb
      exact hl (by simpa [Nat.blt_eq] using hb)
    have e3 : n / 32 = h.length := by omega
    have e4 : (n / 32 == h.length) = true := by rw [e3]; exact beq_self_eq_true _
    have hn : h.getD (n / 32) [] = [] := by rw [List.getD_eq_getElem?_getD, List.getElem?_eq_none (by omega)]; rfl
    have hz : n % 32 = 0 := by rw [hn] at h1; simpa using h1.symm
    rw [e2, e4]
    simp only [cond_false, cond_true]
    unfold ax_raw
    rw [List.getD_eq_getElem?_getD, List.getD_eq_getElem?_getD]
    by_cases q : j / 32 < h.length
    · rw [List.getElem?_append_left q, if_neg (fun e => by rw [e] at q; omega)]
    · rw [List.getElem?_append_right (by omega), List.getElem?_eq_none (show h.length ≤ j / 32 by omega)]
      by_cases q2 : j / 32 = h.length
      · rw [q2, Nat.sub_self]
        by_cases q3 : j % 32 = 0
        · rw [if_pos (ax_dm (by omega) (by omega)), q3]
          rfl
        · rw [if_neg (fun e => q3 (by rw [e]; exact hz))]
          show ([c] : List ax_D)[j % 32]? = ([] : List ax_D)[j % 32]?
          rw [List.getElem?_eq_none (by simp only [List.length_singleton]; omega)]
          simp
      · rw [if_neg (fun e => q2 (by rw [e]; exact e3)), show ([[c]] : List (List ax_D))[j / 32 - List.length h]? = none from List.getElem?_eq_none (by rw [List.length_singleton]; omega)]
theorem ab_sh_push {h : ax_H} {n : Nat} (hs : ab_sh h n) (c : ax_D) : ab_sh (ax_hpush h n c) (n + 1) := by
  obtain ⟨h1, h2, h3⟩ := hs
  have e1 : ((h.getD (n / 32) []).length == n % 32) = true := by rw [h1]; exact beq_self_eq_true _
  unfold ax_hpush
  rw [e1]
  simp only [cond_true]
  by_cases hl : n / 32 < h.length
  · have e2 : Nat.blt (n / 32) h.length = true := by simpa [Nat.blt_eq] using hl
    rw [e2]
    simp only [cond_true]
    refine ⟨?_, by rw [List.length_set]; omega, by rw [List.length_set]; omega⟩
    by_cases q : n % 32 = 31
    · rw [List.getD_eq_getElem?_getD, List.getElem?_eq_none (by rw [List.length_set]; omega)]
      show 0 = _
      omega
    · rw [show (n + 1) / 32 = n / 32 by omega, List.getD_eq_getElem?_getD, List.getElem?_set_self hl, Option.getD_some, List.length_append, h1, List.length_singleton]
      omega
  · have e2 : Nat.blt (n / 32) h.length = false := by
      rw [Bool.eq_false_iff]
      intro hb
      exact hl (by simpa [Nat.blt_eq] using hb)
    have e3 : n / 32 = h.length := by omega
    have e4 : (n / 32 == h.length) = true := by rw [e3]; exact beq_self_eq_true _
    have hn : h.getD (n / 32) [] = [] := by rw [List.getD_eq_getElem?_getD, List.getElem?_eq_none (by omega)]; rfl
    have hz : n % 32 = 0 := by rw [hn] at h1; simpa using h1.symm
    rw [e2, e4]
    simp only [cond_false, cond_true]
    refine ⟨?_, by rw [List.length_append, List.length_singleton]; omega, by rw [List.length_append, List.length_singleton]; omega⟩
    rw [show (n + 1) / 32 = h.length by omega, List.getD_eq_getElem?_getD, List.getElem?_append_right (Nat.le_refl _), Nat.sub_self]
    show 1 = _
    omega
theorem ab_k_new {k : Nat} (hk : 573 ≤ k) : ab_k k = 34 := by
  by_cases h : 576 ≤ k
  · exact ab_k_far h
  · have : k = 573 ∨ k = 574 ∨ k = 575 := by omega
    rcases this with rfl | rfl | rfl <;> rfl
theorem ab_cf_mono {n n' : Nat} (hn : n ≤ n') {S : ab_P} {d : ax_D} (h : ab_cf n S d) : ab_cf n' S d := by
  rcases S with ⟨t, N1, N2, τ, σ⟩ | ⟨ci, τs⟩
  · rcases d with ⟨t', N, f | f⟩ | ⟨cj, fs⟩
    · obtain ⟨h1, h2, h3, h4, h5, h6⟩ := h
      exact ⟨h1, h2, h3, h4, h5, fun i hi => ⟨ab_ok_mono hn (h6 i hi).1, ab_ok_mono hn (h6 i hi).2⟩⟩
    · obtain ⟨h1, h2, h3, h4, h5, h6, h7⟩ := h
      refine ⟨h1, h2, h3, h4, h5, h6, fun i hi => ?_⟩
      obtain ⟨k, e1, e2⟩ := h7 i hi
      exact ⟨k, e1, ab_ok_mono hn e2⟩
    · exact h.elim
  · rcases d with ⟨t', N, f | f⟩ | ⟨cj, fs⟩
    · exact h.elim
    · exact h.elim
    · obtain ⟨h1, h2, h3⟩ := h
      refine ⟨h1, h2, fun j v hv => ?_⟩
      obtain ⟨τ, e1, e2⟩ := h3 j v hv
      exact ⟨τ, e1, ab_ok_mono hn e2⟩
theorem ab_cf_o {n ci : Nat} {τs : List ab_Y} {fs : List Value} (h1 : fs.length = τs.length) (h2 : ∀ (j : Nat) (v : Value), fs[j]? = some v → ∃ τ, τs[j]? = some τ ∧ ab_ok n v τ) : ab_cf n (.inr (ci, τs)) (.inr (ci, fs)) := ⟨rfl, h1, h2⟩
theorem ab_cf_a {n t N1 N2 N : Nat} {τ : ab_Y} {σ : List ab_Y} {f : List (Nat × Int32)} (h2 : t < 2) (h3 : N1 ≤ N) (h4 : N ≤ N2) (h5 : N2 < 2147483648) (h6 : ∀ i, i < N → ab_ok n (.int (ax_fi f i)) τ ∧ ab_ok n (.int (ax_fi f i)) (σ.getD i τ)) : ab_cf n (.inl (t, N1, N2, τ, σ)) (.inl (t, N, .inl f)) := ⟨rfl, h2, h3, h4, h5, h6⟩
/-- a new array of ints, put into the stone's field -/
theorem ab_room_HT {h : ax_H} {n : Nat} (hH : ab_HT h n) {m : Nat} (hm1 : 1 ≤ m) (hm2 : m ≤ 41160) {fs : List Value} (hr : ax_raw h 28 = some (.inr (7, fs))) (hlen : ∀ w : Nat, ab_rd h 28 4 = some (.ref w) → ab_ri h w (-1) < m) :
    (∀ (k : Nat) (i : Int), k < n → (k = 28 → i ≠ 4) → ab_rd (ax_hset (ax_hpush h n (.inl (0, m, .inl []))) 28 (.inr (7, fs.set 4 (.ref n)))) k i = ab_rd h k i) ∧ ab_HT (ax_hset (ax_hpush h n (.inl (0, m, .inl []))) 28 (.inr (7, fs.set 4 (.ref n)))) (n + 1) := by
  have hn := hH.1
  have hp := fun j => ab_raw_push2 hH.2.2.2 (.inl (0, m, .inl [])) j
  have hr' : ax_raw (ax_hpush h n (.inl (0, m, .inl []))) 28 = some (.inr (7, fs)) := by rw [hp, if_neg (by omega)]; exact hr
  have hs := fun j => ab_raw_set (c := .inr (7, fs.set 4 (.ref n))) hr' j
  obtain ⟨d28, S28, q1, q2, q3⟩ := hH.2.1 28 (by omega)
  rw [hr] at q1
  cases q1
  have hK : ab_K[ab_k 28]? = some ks_30 := rfl
  rw [hK] at q2
  cases q2
  have hfs : fs.length = 9 := q3.2.1
  have hrd : ∀ (k : Nat) (i : Int), k < n → (k = 28 → i ≠ 4) → ab_rd (ax_hset (ax_hpush h n (.inl (0, m, .inl []))) 28 (.inr (7, fs.set 4 (.ref n)))) k i = ab_rd h k i := by
    intro k i hk hne
    unfold ab_rd
    rw [hs]
    by_cases e : k = 28
    · subst e
      rw [if_pos rfl, hr]
      have hi := hne rfl
      by_cases hneg : i < 0
      · simp only [decide_eq_true hneg, cond_true]
      · simp only [decide_eq_false hneg, cond_false]
        rw [List.getElem?_set_ne (by omega)]
    · rw [if_neg e, hp, if_neg (by omega)]
  refine ⟨hrd, by omega, fun k hk => ?_, ?_, ab_sh_set (ab_sh_push hH.2.2.2 _)⟩
  · rw [hs]
    by_cases e : k = 28
    · subst e
      refine ⟨.inr (7, fs.set 4 (.ref n)), ks_30, by rw [if_pos rfl], hK, ab_cf_o (by rw [List.length_set]; exact q3.2.1) (fun j v hv => ?_)⟩
      by_cases ej : 4 = j
      · subst ej
        rw [List.getElem?_set_self (by omega)] at hv
        cases hv
        exact ⟨_, rfl, n, rfl, by omega, by rw [ab_k_new hn]; rfl⟩
      · rw [List.getElem?_set_ne ej] at hv
        obtain ⟨τ, e1, e2⟩ := q3.2.2 j v hv
        exact ⟨τ, e1, ab_ok_mono (by omega) e2⟩
    · rw [if_neg e, hp]
      by_cases e2 : k = n
      · subst e2
        exact ⟨.inl (0, m, .inl []), ks_34, by rw [if_pos rfl], by rw [ab_k_new hn]; rfl, ab_cf_a (by decide) hm1 hm2 (by decide) (fun i hi => ⟨ab_top_ok _ _, ab_top_ok _ _⟩)⟩
      · rw [if_neg e2]
        obtain ⟨d, S, h1, h2, h3⟩ := hH.2.1 k (by omega)
        exact ⟨d, S, h1, h2, ab_cf_mono (by omega) h3⟩
  · obtain ⟨⟨j1, j2, j3⟩, j4, j5⟩ := hH.2.2.1
    have hri : ∀ (k : Nat) (i : Int), k < n → (k = 28 → i ≠ 4) → ab_ri (ax_hset (ax_hpush h n (.inl (0, m, .inl []))) 28 (.inr (7, fs.set 4 (.ref n)))) k i = ab_ri h k i := fun k i hk hne => ab_ri_of (hrd k i hk hne)
    have hgc : ∀ (k a : Nat), k < n → k ≠ 28 → ab_gc (ax_hset (ax_hpush h n (.inl (0, m, .inl []))) 28 (.inr (7, fs.set 4 (.ref n)))) k a = ab_gc h k a := fun k a hk hne => ab_gc_of a (fun i _ => hrd k i hk (fun e => absurd e hne))
    refine ⟨⟨?_, ?_, ?_⟩, ?_, fun w hw => ?_⟩
    · rw [hri 28 1 (by omega) (by omega), hgc 29 _ (by omega) (by omega)]; exact j1
    · rw [hri 28 1 (by omega) (by omega), hri 28 2 (by omega) (by omega)]; exact j2
    · rw [hri 28 1 (by omega) (by omega), hri 28 2 (by omega) (by omega)]; exact j3
    · rw [hri 542 14 (by omega) (by omega), hgc 554 _ (by omega) (by omega)]; exact j4
    · have hw4 : ab_rd (ax_hset (ax_hpush h n (.inl (0, m, .inl []))) 28 (.inr (7, fs.set 4 (.ref n)))) 28 4 = some (.ref n) := by
        unfold ab_rd
        rw [hs, if_pos rfl]
        show (fs.set 4 (.ref n))[4]? = _
        rw [List.getElem?_set_self (by omega)]
      rw [hw4] at hw
      cases hw
      have hl : ab_ri (ax_hset (ax_hpush h n (.inl (0, m, .inl []))) 28 (.inr (7, fs.set 4 (.ref n)))) n (-1) = m := by
        unfold ab_ri
        have : ab_rd (ax_hset (ax_hpush h n (.inl (0, m, .inl []))) 28 (.inr (7, fs.set 4 (.ref n)))) n (-1) = some (.int (Int32.ofNat m)) := by
          unfold ab_rd
          rw [hs, if_neg (by omega), hp, if_pos rfl]
          rfl
        rw [this]
        exact ab_ofN (by omega)
      rw [hl, hri 28 6 (by omega) (by omega), hri 28 7 (by omega) (by omega)]
      obtain ⟨w0, hw0⟩ : ∃ w0 : Nat, ab_rd h 28 4 = some (.ref w0) := by
        have h4 : ∃ v, fs[4]? = some v := ⟨fs[4]'(by omega), List.getElem?_eq_getElem (by omega)⟩
        obtain ⟨v, hv⟩ := h4
        obtain ⟨τ, e1, e2⟩ := q3.2.2 4 v hv
        have : τ = .inr (some 17179869184) := by
          have : (some (.inr (some 17179869184)) : Option ab_Y) = some τ := e1
          exact (Option.some.inj this).symm
        subst this
        obtain ⟨k, rfl, -⟩ := e2
        refine ⟨k, ?_⟩
        unfold ab_rd
        rw [hr]
        exact hv
      have a1 := hlen w0 hw0
      have a2 := j5 w0 hw0
      omega
