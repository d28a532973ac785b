/-! ===== reading and writing cells that are as their kinds say ===== -/
theorem ab_raw_set {h : ax_H} {k : Nat} {d c : ax_D} (hk : ax_raw h k = some d) (j : Nat) : ax_raw (ax_hset h k c) j = if j = k then some c else ax_raw h j := by
  have hl : k / 32 < h.length := by
    by_cases q : k / 32 < h.length
    · exact q
    · exfalso
      unfold ax_raw at hk
      rw [List.getD_eq_getElem?_getD, List.getElem?_eq_none (Nat.not_lt.mp q)] at hk
      simp at hk
  have hm : k % 32 < (h.getD (k / 32) []).length := (List.getElem?_eq_some_iff.mp hk).1
  unfold ax_raw ax_hset
  by_cases h1 : j / 32 = k / 32
  · rw [h1, List.getD_eq_getElem?_getD, List.getElem?_set_self hl, Option.getD_some]
    by_cases h2 : j % 32 = k % 32
    · rw [if_pos (ax_dm h1 h2), h2, List.getElem?_set_self hm]
    · rw [if_neg (fun e => h2 (by rw [e])), List.getElem?_set_ne (fun e => h2 e.symm)]
  · rw [if_neg (fun e => h1 (by rw [e])), List.getD_eq_getElem?_getD, List.getElem?_set_ne (fun e => h1 e.symm), ← List.getD_eq_getElem?_getD]
/-- the bits of a number -/
def ab_ksl : Nat → Nat → Option (List Nat)
  | 0, M => bif Nat.beq M 0 then some [] else none
  | f + 1, M => bif Nat.beq M 0 then some [] else (ab_ksl f (M ^^^ 2 ^ Nat.log2 M)).map (Nat.log2 M :: ·)
theorem ab_ksl_ok {κ : Nat} : ∀ (f M : Nat) (L : List Nat), ab_ksl f M = some L → M.testBit κ = true → κ ∈ L := by
  intro f
  induction f with
  | zero =>
    intro M L h ht
    unfold ab_ksl at h
    cases e : Nat.beq M 0 with
    | false => rw [e] at h; cases h
    | true => rw [show M = 0 by simpa [Nat.beq_eq] using e] at ht; simp at ht
  | succ f ih =>
    intro M L h ht
    unfold ab_ksl at h
    cases e : Nat.beq M 0 with
    | true => rw [show M = 0 by simpa [Nat.beq_eq] using e] at ht; simp at ht
    | false =>
      rw [e] at h
      obtain ⟨L', h1, rfl⟩ := Option.map_eq_some_iff.mp h
      by_cases hκ : κ = Nat.log2 M
      · rw [hκ]; exact List.mem_cons_self
      · refine List.mem_cons_of_mem _ (ih _ L' h1 ?_)
        rw [Nat.testBit_xor, ht, Nat.testBit_two_pow, decide_eq_false (fun q => hκ q.symm)]
        rfl
def ab_ks (M : Nat) : List Nat := match ab_ksl 12 M with
  | some L => L
  | none => (List.range ab_K.length).filter fun κ => M.testBit κ
theorem ab_ks_in {M κ : Nat} {S : ab_P} (h : M.testBit κ = true) (hS : ab_K[κ]? = some S) : κ ∈ ab_ks M := by
  unfold ab_ks
  split
  · rename_i L hL
    exact ab_ksl_ok 12 M L hL h
  · exact List.mem_filter.mpr ⟨List.mem_range.mpr (List.getElem?_eq_some_iff.mp hS).1, h⟩
section RD
variable {h : ax_H} {n M k : Nat}
def ab_fck (M ci j : Nat) (τ : ab_Y) : Bool := (ab_ks M).all fun κ => match ab_K[κ]? with
  | some (.inr (ci', τs)) => Nat.beq ci' ci && (match τs[j]? with
    | some σ => ab_le σ τ
    | none => false)
  | _ => false
theorem ab_fck_ok {ci j : Nat} {τ : ab_Y} (hH : ab_HT h n) (hM : M.testBit (ab_k k) = true) (hk : k < n) (hc0 : ab_fck M ci j τ = true) : ∃ fs v, ax_raw h k = some (.inr (ci, fs)) ∧ fs[j]? = some v ∧ ab_ok n v τ := by
  obtain ⟨d, S, h1, h2, h3⟩ := hH.2.1 k hk
  have hc := List.all_eq_true.mp hc0 _ (ab_ks_in hM h2)
  rw [h2] at hc
  rcases S with ⟨t, N1, N2, σ, σs⟩ | ⟨ci', τs⟩
  · cases hc
  · rcases d with ⟨t, N, f | f⟩ | ⟨cj, fs⟩
    · cases h3
    · cases h3
    · obtain ⟨rfl, hl, h4⟩ := h3
      simp only [Bool.and_eq_true, Nat.beq_eq] at hc
      obtain ⟨rfl, hc⟩ := hc
      cases e : τs[j]? with
      | none => rw [e] at hc; cases hc
      | some σ =>
        rw [e] at hc
        have hj : j < fs.length := by rw [hl]; exact (List.getElem?_eq_some_iff.mp e).1
        obtain ⟨σ', e1, e2⟩ := h4 j _ (List.getElem?_eq_getElem hj)
        have : σ' = σ := Option.some.inj (e1.symm.trans e)
        subst this
        exact ⟨fs, _, h1, List.getElem?_eq_getElem hj, ab_le_ok hc e2⟩
def ab_ack (M t : Nat) (c : Option Nat) (τ : ab_Y) : Bool := (ab_ks M).all fun κ => match ab_K[κ]? with
  | some (.inl (t', _, _, σ, σs)) => Nat.beq t' t && (match c with
    | some i => ab_le (σs.getD i σ) τ
    | none => ab_le σ τ)
  | _ => false
theorem ab_ack_ok {t : Nat} {c : Option Nat} {τ : ab_Y} (hH : ab_HT h n) (hM : M.testBit (ab_k k) = true) (hk : k < n) (ht : t < 2) (hc0 : ab_ack M t c τ = true) : ∃ N f, ax_raw h k = some (.inl (t, N, .inl f)) ∧ N < 2147483648 ∧ ∀ i, i < N → (∀ j, c = some j → j = i) → ab_ok n (.int (ax_fi f i)) τ := by
  obtain ⟨d, S, h1, h2, h3⟩ := hH.2.1 k hk
  have hc := List.all_eq_true.mp hc0 _ (ab_ks_in hM h2)
  rw [h2] at hc
  rcases S with ⟨t', N1, N2, σ, σs⟩ | ⟨ci', τs⟩
  · simp only [Bool.and_eq_true, Nat.beq_eq] at hc
    obtain ⟨rfl, hc⟩ := hc
    rcases d with ⟨t2, N, f | f⟩ | ⟨cj, fs⟩
    · obtain ⟨rfl, -, -, h5, h6, h7⟩ := h3
      refine ⟨N, f, h1, by omega, fun i hi hj => ?_⟩
      cases c with
      | none => exact ab_le_ok hc (h7 i hi).1
      | some j =>
        obtain rfl := hj j rfl
        exact ab_le_ok hc (h7 j hi).2
    · obtain ⟨-, h4, -⟩ := h3
      omega
    · cases h3
  · cases hc
theorem ab_ack_ref {t : Nat} {τ : ab_Y} (hH : ab_HT h n) (hM : M.testBit (ab_k k) = true) (hk : k < n) (ht : 2 ≤ t) (hc0 : ab_ack M t none τ = true) : ∃ N f, ax_raw h k = some (.inl (t, N, .inr f)) ∧ N < 2147483648 ∧ ∀ i, i < N → ∃ k', ax_fr f i = some k' ∧ ab_ok n (.ref k') τ := by
  obtain ⟨d, S, h1, h2, h3⟩ := hH.2.1 k hk
  have hc := List.all_eq_true.mp hc0 _ (ab_ks_in hM h2)
  rw [h2] at hc
  rcases S with ⟨t', N1, N2, σ, σs⟩ | ⟨ci', τs⟩
  · simp only [Bool.and_eq_true, Nat.beq_eq] at hc
    obtain ⟨rfl, hc⟩ := hc
    rcases d with ⟨t2, N, f | f⟩ | ⟨cj, fs⟩
    · obtain ⟨-, h4, -⟩ := h3
      omega
    · obtain ⟨rfl, -, -, -, h5, h6, h7⟩ := h3
      refine ⟨N, f, h1, by omega, fun i hi => ?_⟩
      obtain ⟨k', e1, e2⟩ := h7 i hi
      exact ⟨k', e1, ab_le_ok hc e2⟩
    · cases h3
  · cases hc
/-- the length of an array is that of its kind at least -/
theorem ab_len_ok {t N : Nat} {f : List (Nat × Int32) ⊕ List (Nat × Option Nat)} (hH : ab_HT h n) (hk : k < n) (hr : ax_raw h k = some (.inl (t, N, f))) : ∃ t' N1 N2 σ σs, ab_K[ab_k k]? = some (.inl (t', N1, N2, σ, σs)) ∧ N1 ≤ N ∧ N ≤ N2 ∧ N < 2147483648 := by
  obtain ⟨d, S, h1, h2, h3⟩ := hH.2.1 k hk
  obtain rfl : d = _ := Option.some.inj (h1.symm.trans hr)
  rcases S with ⟨t', N1, N2, σ, σs⟩ | ⟨ci', τs⟩
  · refine ⟨t', N1, N2, σ, σs, h2, ?_⟩
    rcases f with f | f
    · obtain ⟨-, -, h4, h5, h6, -⟩ := h3
      exact ⟨h4, h5, by omega⟩
    · obtain ⟨-, -, -, h4, h5, h6, -⟩ := h3
      exact ⟨h4, h5, by omega⟩
  · rcases f with f | f <;> cases h3
theorem ab_rd_len {t N : Nat} {f : List (Nat × Int32) ⊕ List (Nat × Option Nat)} (hr : ax_raw h k = some (.inl (t, N, f))) : ab_rd h k (-1) = some (.int (Int32.ofNat N)) := by
  unfold ab_rd
  rw [hr]
  rcases f with f | f <;> rfl
theorem ab_sh_set {c : ax_D} (hs : ab_sh h n) : ab_sh (ax_hset h k c) n := by
  obtain ⟨h1, h2, h3⟩ := hs
  unfold ax_hset
  refine ⟨?_, by rw [List.length_set]; exact h2, by rw [List.length_set]; exact h3⟩
  by_cases e : n / 32 = k / 32
  · by_cases hl : k / 32 < h.length
    · rw [e, List.getD_eq_getElem?_getD, List.getElem?_set_self hl, Option.getD_some, List.length_set, ← e]
      exact h1
    · rw [List.set_eq_of_length_le (by omega)]
      exact h1
  · rw [List.getD_eq_getElem?_getD, List.getElem?_set_ne (fun q => e q.symm), ← List.getD_eq_getElem?_getD]
    exact h1
theorem ab_HT_set {d c : ax_D} (hH : ab_HT h n) (hr : ax_raw h k = some d) (hc : ∀ S, ab_K[ab_k k]? = some S → ab_cf n S d → ab_cf n S c) (hJ : ab_J (ax_hset h k c)) : ab_HT (ax_hset h k c) n := by
  refine ⟨hH.1, fun j hj => ?_, hJ, ab_sh_set hH.2.2.2⟩
  obtain ⟨d', S, h1, h2, h3⟩ := hH.2.1 j hj
  rw [ab_raw_set hr]
  by_cases e : j = k
  · subst e
    rw [if_pos rfl]
    obtain rfl : d' = d := Option.some.inj (h1.symm.trans hr)
    exact ⟨c, S, rfl, h2, hc S h2 h3⟩
  · rw [if_neg e]
    exact ⟨d', S, h1, h2, h3⟩
theorem ab_rd_put {ci j : Nat} {fs : List Value} {w : Value} (hr : ax_raw h k = some (.inr (ci, fs))) (hj : j < fs.length) (k' : Nat) (i : Int) : ab_rd (ax_hset h k (.inr (ci, fs.set j w))) k' i = if k' = k ∧ i = (j : Int) then some w else ab_rd h k' i := by
  unfold ab_rd
  rw [ab_raw_set hr]
  by_cases e : k' = k
  · subst e
    rw [if_pos rfl, hr]
    simp only [true_and]
    by_cases hi : i < 0
    · simp only [decide_eq_true hi, cond_true]
      rw [if_neg (by omega)]
    · simp only [decide_eq_false hi, cond_false]
      by_cases e2 : i = (j : Int)
      · subst e2
        rw [if_pos rfl, Int.toNat_natCast, List.getElem?_set_self hj]
      · rw [if_neg e2, List.getElem?_set_ne (by omega)]
  · rw [if_neg e, if_neg (fun q => e q.1)]
theorem ab_rd_ast {t N i0 : Nat} {f : List (Nat × Int32)} {x : Int32} (hr : ax_raw h k = some (.inl (t, N, .inl f))) (k' : Nat) (i : Int) : ab_rd (ax_hset h k (.inl (t, N, .inl ((i0, x) :: f)))) k' i = if k' = k ∧ i = (i0 : Int) then some (.int x) else ab_rd h k' i := by
  unfold ab_rd
  rw [ab_raw_set hr]
  by_cases e : k' = k
  · subst e
    rw [if_pos rfl, hr]
    simp only [true_and]
    by_cases hi : i < 0
    · simp only [decide_eq_true hi, cond_true]
      rw [if_neg (by omega)]
    · simp only [decide_eq_false hi, cond_false]
      by_cases e2 : i = (i0 : Int)
      · subst e2
        rw [if_pos rfl, Int.toNat_natCast]
        exact congrArg (fun z => some (Value.int z)) pk_us
      · rw [if_neg e2]
        exact congrArg (fun z => some (Value.int z)) (pk_un (by omega))
  · rw [if_neg e, if_neg (fun q => e q.1)]
end RD
