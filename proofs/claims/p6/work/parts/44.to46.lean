section
/-! ===== reading and writing cells that are as their kinds say ===== -/
theorem ab_raw_set {h : ax_H} {k : Nat} {d c : ax_D} (hk : ax_raw h k = some d) (j : Nat) : ax_raw (ax_hset h k c) j = if j = k then some c else ax_raw h j := by
  have hl : k / 32 < h.length := by
    by_cases q : k / 32 < h.length
    · exact q
    · exfalso
      unfold ax_raw at hk
      rw [List.getD_eq_getElem?_getD, List.getElem?_eq_none (Nat.not_lt.mp q)] at hk
      simp at hk
  have hm : k % 32 < (h.getD (k / 32) []).length := (List.getElem?_eq_some_iff.mp hk).1
  unfold ax_raw ax_hset
  by_cases h1 : j / 32 = k / 32
  · rw [h1, List.getD_eq_getElem?_getD, List.getElem?_set_self hl, Option.getD_some]
    by_cases h2 : j % 32 = k % 32
    · rw [if_pos (ax_dm h1 h2), h2, List.getElem?_set_self hm]
    · rw [if_neg (fun e => h2 (by rw [e])), List.getElem?_set_ne (fun e => h2 e.symm)]
  · rw [if_neg (fun e => h1 (by rw [e])), List.getD_eq_getElem?_getD, List.getElem?_set_ne (fun e => h1 e.symm), ← List.getD_eq_getElem?_getD]
/-- the bits of a number -/
def ab_ksl : Nat → Nat → Option (List Nat)
  | 0, M => bif Nat.beq M 0 then some [] else none
  | f + 1, M => bif Nat.beq M 0 then some [] else (ab_ksl f (M ^^^ 2 ^ Nat.log2 M)).map (Nat.log2 M :: ·)
theorem ab_ksl_ok {κ : Nat} : ∀ (f M : Nat) (L : List Nat), ab_ksl f M = some L → M.testBit κ = true → κ ∈ L := by
  intro f
  induction f with
  | zero =>
    intro M L h ht
    unfold ab_ksl at h
    cases e : Nat.beq M 0 with
    | false => rw [e] at h; cases h
    | true => rw [show M = 0 by simpa [Nat.beq_eq] using e] at ht; simp at ht
  | succ f ih =>
    intro M L h ht
    unfold ab_ksl at h
    cases e : Nat.beq M 0 with
    | true => rw [show M = 0 by simpa [Nat.beq_eq] using e] at ht; simp at ht
    | false =>
      rw [e] at h
      obtain ⟨L', h1, rfl⟩ := Option.map_eq_some_iff.mp h
      by_cases hκ : κ = Nat.log2 M
      · rw [hκ]; exact List.mem_cons_self
      · refine List.mem_cons_of_mem _ (ih _ L' h1 ?_)
        rw [Nat.testBit_xor, ht, Nat.testBit_two_pow, decide_eq_false (fun q => hκ q.symm)]
        rfl
def ab_ks (M : Nat) : List Nat := match ab_ksl 12 M with
  | some L => L
  | none => (List.range ab_K.length).filter fun κ => M.testBit κ
theorem ab_ks_in {M κ : Nat} {S : ab_P} (h : M.testBit κ = true) (hS : ab_K[κ]? = some S) : κ ∈ ab_ks M := by
  unfold ab_ks
  split
  · rename_i L hL
    exact ab_ksl_ok 12 M L hL h
  · exact List.mem_filter.mpr ⟨List.mem_range.mpr (List.getElem?_eq_some_iff.mp hS).1, h⟩
section RD
variable {h : ax_H} {n M k : Nat}
def ab_fck (M ci j : Nat) (τ : ab_Y) : Bool := (ab_ks M).all fun κ => match ab_K[κ]? with
  | some (.inr (ci', τs)) => Nat.beq ci' ci && (match τs[j]? with
    | some σ => ab_le σ τ
    | none => false)
  | _ => false
theorem ab_fck_ok {ci j : Nat} {τ : ab_Y} (hH : ab_HT h n) (hM : M.testBit (ab_k k) = true) (hk : k < n) (hc0 : ab_fck M ci j τ = true) : ∃ fs v, ax_raw h k = some (.inr (ci, fs)) ∧ fs[j]? = some v ∧ ab_ok n v τ := by
  obtain ⟨d, S, h1, h2, h3⟩ := hH.2.1 k hk
  have hc := List.all_eq_true.mp hc0 _ (ab_ks_in hM h2)
  rw [h2] at hc
  rcases S with ⟨t, N1, N2, σ, σs⟩ | ⟨ci', τs⟩
  · cases hc
  · rcases d with ⟨t, N, f | f⟩ | ⟨cj, fs⟩
    · cases h3
    · cases h3
    · obtain ⟨rfl, hl, h4⟩ := h3
      simp only [Bool.and_eq_true, Nat.beq_eq] at hc
      obtain ⟨rfl, hc⟩ := hc
      cases e : τs[j]? with
      | none => rw [e] at hc; cases hc
      | some σ =>
        rw [e] at hc
        have hj : j < fs.length := by rw [hl]; exact (List.getElem?_eq_some_iff.mp e).1
        obtain ⟨σ', e1, e2⟩ := h4 j _ (List.getElem?_eq_getElem hj)
        have : σ' = σ := Option.some.inj (e1.symm.trans e)
        subst this
        exact ⟨fs, _, h1, List.getElem?_eq_getElem hj, ab_le_ok hc e2⟩
def ab_ack (M t : Nat) (c : Option Nat) (τ : ab_Y) : Bool := (ab_ks M).all fun κ => match ab_K[κ]? with
  | some (.inl (t', _, _, σ, σs)) => Nat.beq t' t && (match c with
    | some i => ab_le (σs.getD i σ) τ
    | none => ab_le σ τ)
  | _ => false
theorem ab_ack_ok {t : Nat} {c : Option Nat} {τ : ab_Y} (hH : ab_HT h n) (hM : M.testBit (ab_k k) = true) (hk : k < n) (ht : t < 2) (hc0 : ab_ack M t c τ = true) : ∃ N f, ax_raw h k = some (.inl (t, N, .inl f)) ∧ N < 2147483648 ∧ ∀ i, i < N → (∀ j, c = some j → j = i) → ab_ok n (.int (ax_fi f i)) τ := by
  obtain ⟨d, S, h1, h2, h3⟩ := hH.2.1 k hk
  have hc := List.all_eq_true.mp hc0 _ (ab_ks_in hM h2)
  rw [h2] at hc
  rcases S with ⟨t', N1, N2, σ, σs⟩ | ⟨ci', τs⟩
  · simp only [Bool.and_eq_true, Nat.beq_eq] at hc
    obtain ⟨rfl, hc⟩ := hc
    rcases d with ⟨t2, N, f | f⟩ | ⟨cj, fs⟩
    · obtain ⟨rfl, -, -, h5, h6, h7⟩ := h3
      refine ⟨N, f, h1, by omega, fun i hi hj => ?_⟩
      cases c with
      | none => exact ab_le_ok hc (h7 i hi).1
      | some j =>
        obtain rfl := hj j rfl
        exact ab_le_ok hc (h7 j hi).2
    · obtain ⟨-, h4, -⟩ := h3
      omega
    · cases h3
  · cases hc
theorem ab_ack_ref {t : Nat} {τ : ab_Y} (hH : ab_HT h n) (hM : M.testBit (ab_k k) = true) (hk : k < n) (ht : 2 ≤ t) (hc0 : ab_ack M t none τ = true) : ∃ N f, ax_raw h k = some (.inl (t, N, .inr f)) ∧ N < 2147483648 ∧ ∀ i, i < N → ∃ k', ax_fr f i = some k' ∧ ab_ok n (.ref k') τ := by
  obtain ⟨d, S, h1, h2, h3⟩ := hH.2.1 k hk
  have hc := List.all_eq_true.mp hc0 _ (ab_ks_in hM h2)
  rw [h2] at hc
  rcases S with ⟨t', N1, N2, σ, σs⟩ | ⟨ci', τs⟩
  · simp only [Bool.and_eq_true, Nat.beq_eq] at hc
    obtain ⟨rfl, hc⟩ := hc
    rcases d with ⟨t2, N, f | f⟩ | ⟨cj, fs⟩
    · obtain ⟨-, h4, -⟩ := h3
      omega
    · obtain ⟨rfl, -, -, -, h5, h6, h7⟩ := h3
      refine ⟨N, f, h1, by omega, fun i hi => ?_⟩
      obtain ⟨k', e1, e2⟩ := h7 i hi
      exact ⟨k', e1, ab_le_ok hc e2⟩
    · cases h3
  · cases hc
/-- the length of an array is that of its kind at least -/
theorem ab_len_ok {t N : Nat} {f : List (Nat × Int32) ⊕ List (Nat × Option Nat)} (hH : ab_HT h n) (hk : k < n) (hr : ax_raw h k = some (.inl (t, N, f))) : ∃ t' N1 N2 σ σs, ab_K[ab_k k]? = some (.inl (t', N1, N2, σ, σs)) ∧ N1 ≤ N ∧ N ≤ N2 ∧ N < 2147483648 := by
  obtain ⟨d, S, h1, h2, h3⟩ := hH.2.1 k hk
  obtain rfl : d = _ := Option.some.inj (h1.symm.trans hr)
  rcases S with ⟨t', N1, N2, σ, σs⟩ | ⟨ci', τs⟩
  · refine ⟨t', N1, N2, σ, σs, h2, ?_⟩
    rcases f with f | f
    · obtain ⟨-, -, h4, h5, h6, -⟩ := h3
      exact ⟨h4, h5, by omega⟩
    · obtain ⟨-, -, -, h4, h5, h6, -⟩ := h3
      exact ⟨h4, h5, by omega⟩
  · rcases f with f | f <;> cases h3
theorem ab_rd_len {t N : Nat} {f : List (Nat × Int32) ⊕ List (Nat × Option Nat)} (hr : ax_raw h k = some (.inl (t, N, f))) : ab_rd h k (-1) = some (.int (Int32.ofNat N)) := by
  unfold ab_rd
  rw [hr]
  rcases f with f | f <;> rfl
theorem ab_sh_set {c : ax_D} (hs : ab_sh h n) : ab_sh (ax_hset h k c) n := by
  obtain ⟨h1, h2, h3⟩ := hs
  unfold ax_hset
  refine ⟨?_, by rw [List.length_set]; exact h2, by rw [List.length_set]; exact h3⟩
  by_cases e : n / 32 = k / 32
  · by_cases hl : k / 32 < h.length
    · rw [e, List.getD_eq_getElem?_getD, List.getElem?_set_self hl, Option.getD_some, List.length_set, ← e]
      exact h1
    · rw [List.set_eq_of_length_le (by omega)]
      exact h1
  · rw [List.getD_eq_getElem?_getD, List.getElem?_set_ne (fun q => e q.symm), ← List.getD_eq_getElem?_getD]
    exact h1
theorem ab_HT_set {d c : ax_D} (hH : ab_HT h n) (hr : ax_raw h k = some d) (hc : ∀ S, ab_K[ab_k k]? = some S → ab_cf n S d → ab_cf n S c) (hJ : ab_J (ax_hset h k c)) : ab_HT (ax_hset h k c) n := by
  refine ⟨hH.1, fun j hj => ?_, hJ, ab_sh_set hH.2.2.2⟩
  obtain ⟨d', S, h1, h2, h3⟩ := hH.2.1 j hj
  rw [ab_raw_set hr]
  by_cases e : j = k
  · subst e
    rw [if_pos rfl]
    obtain rfl : d' = d := Option.some.inj (h1.symm.trans hr)
    exact ⟨c, S, rfl, h2, hc S h2 h3⟩
  · rw [if_neg e]
    exact ⟨d', S, h1, h2, h3⟩
theorem ab_rd_put {ci j : Nat} {fs : List Value} {w : Value} (hr : ax_raw h k = some (.inr (ci, fs))) (hj : j < fs.length) (k' : Nat) (i : Int) : ab_rd (ax_hset h k (.inr (ci, fs.set j w))) k' i = if k' = k ∧ i = (j : Int) then some w else ab_rd h k' i := by
  unfold ab_rd
  rw [ab_raw_set hr]
  by_cases e : k' = k
  · subst e
    rw [if_pos rfl, hr]
    simp only [true_and]
    by_cases hi : i < 0
    · simp only [decide_eq_true hi, cond_true]
      rw [if_neg (by omega)]
    · simp only [decide_eq_false hi, cond_false]
      by_cases e2 : i = (j : Int)
      · subst e2
        rw [if_pos rfl, Int.toNat_natCast, List.getElem?_set_self hj]
      · rw [if_neg e2, List.getElem?_set_ne (by omega)]
  · rw [if_neg e, if_neg (fun q => e q.1)]
theorem ab_rd_ast {t N i0 : Nat} {f : List (Nat × Int32)} {x : Int32} (hr : ax_raw h k = some (.inl (t, N, .inl f))) (k' : Nat) (i : Int) : ab_rd (ax_hset h k (.inl (t, N, .inl ((i0, x) :: f)))) k' i = if k' = k ∧ i = (i0 : Int) then some (.int x) else ab_rd h k' i := by
  unfold ab_rd
  rw [ab_raw_set hr]
  by_cases e : k' = k
  · subst e
    rw [if_pos rfl, hr]
    simp only [true_and]
    by_cases hi : i < 0
    · simp only [decide_eq_true hi, cond_true]
      rw [if_neg (by omega)]
    · simp only [decide_eq_false hi, cond_false]
      by_cases e2 : i = (i0 : Int)
      · subst e2
        rw [if_pos rfl, Int.toNat_natCast]
        exact congrArg (fun z => some (Value.int z)) pk_us
      · rw [if_neg e2]
        exact congrArg (fun z => some (Value.int z)) (pk_un (by omega))
  · rw [if_neg e, if_neg (fun q => e q.1)]
end RD
end
section
/-! ===== what was read stays known; writing ===== -/
def ab_uqB : Bool := (List.range 576).all fun k => ab_uq.all fun q => !(Nat.beq (ab_k k) q.1) || Nat.beq k q.2
def ab_uqC : Bool := ab_uq.all fun q => !(Nat.beq q.1 34)
set_option maxRecDepth 100000 in
theorem ab_uqB_ok : ab_uqB = true := by decide +kernel
set_option maxRecDepth 100000 in
theorem ab_uqC_ok : ab_uqC = true := by decide +kernel
theorem ab_k_far {k : Nat} (h : 576 ≤ k) : ab_k k = 34 := by
  unfold ab_k
  have h1 : kd_all.getD (k / 32) [] = [] := by
    rw [List.getD_eq_getElem?_getD, List.getElem?_eq_none (show 18 ≤ k / 32 by omega)]; rfl
  rw [h1]; rfl
theorem ab_uq_ok {q : Nat × Nat} (hq : q ∈ ab_uq) {k : Nat} (hk : ab_k k = q.1) : k = q.2 := by
  by_cases h : k < 576
  · have h1 := List.all_eq_true.mp (List.all_eq_true.mp ab_uqB_ok k (List.mem_range.mpr h)) q hq
    simp only [Bool.or_eq_true, Bool.not_eq_true', Nat.beq_eq] at h1
    rcases h1 with h1 | h1
    · rw [hk] at h1
      simp at h1
    · exact h1
  · have h1 := List.all_eq_true.mp ab_uqC_ok q hq
    rw [← hk, ab_k_far (by omega)] at h1
    simp at h1
def ab_one (M : Nat) : Option Nat := (ab_uq.find? fun q => Nat.beq M (2 ^ q.1)).map (·.2)
theorem ab_one_ok {M c : Nat} (h : ab_one M = some c) {k : Nat} (hk : M.testBit (ab_k k) = true) : k = c := by
  unfold ab_one at h
  obtain ⟨q, hq, rfl⟩ := Option.map_eq_some_iff.mp h
  have h1 : M = 2 ^ q.1 := by simpa [Nat.beq_eq] using List.find?_some hq
  rw [h1, Nat.testBit_two_pow] at hk
  exact ab_uq_ok (List.mem_of_find?_eq_some hq) (of_decide_eq_true hk).symm
/-- an answer of a type -/
def ab_rt (τ : ab_Y) : ab_R := match τ with
  | .inl (lo, hi, f) => bif decide (lo = hi) && ab_rng lo then .inl (.inl lo) else .inr (.inl (lo, hi, f), [])
  | .inr (some M) => match ab_one M with
    | some k => .inl (.inr (.inr (.inl k)))
    | none => .inr (.inr (some M), [])
  | .inr none => .inr (.inr none, [])
theorem ab_rt_ok {n : Nat} {V : List Value} {τ : ab_Y} {w : Value} (h : ab_ok n w τ) : ab_den n V (ab_rt τ) w := by
  rcases τ with ⟨lo, hi, f⟩ | (_ | M)
  · show ab_den n V (bif decide (lo = hi) && ab_rng lo then .inl (.inl lo) else .inr (.inl (lo, hi, f), [])) w
    cases e : (decide (lo = hi) && ab_rng lo) with
    | false => exact ⟨h, ab_no⟩
    | true =>
      simp only [Bool.and_eq_true, decide_eq_true_eq] at e
      obtain ⟨x, rfl, h1, h2, -⟩ := h
      show ab_cv V (.inl lo) = _
      simp only [ab_cv, e.2, cond_true]
      have hx : x.toInt = lo := by omega
      rw [← hx, Int32.ofInt_toInt]
  · exact ⟨h, ab_no⟩
  · have e : ab_rt (.inr (some M)) = (match ab_one M with
      | some k => .inl (.inr (.inr (.inl k)))
      | none => .inr (.inr (some M), [])) := rfl
    rw [e]
    cases hk : ab_one M with
    | some k =>
      obtain ⟨k', rfl, -, h2⟩ := h
      show some (Value.ref k) = _
      rw [ab_one_ok hk h2]
    | none => exact ⟨h, ab_no⟩
def ab_fd (F : List (ab_V × ab_V × ab_V)) (o i : ab_V) : Option ab_V := (F.find? fun q => ab_veq q.1 o && ab_veq q.2.1 i).map (·.2.2)
theorem ab_fd_in {F : List (ab_V × ab_V × ab_V)} {o i v : ab_V} (hf : ab_fd F o i = some v) : (o, i, v) ∈ F := by
  unfold ab_fd at hf
  obtain ⟨q, hq, rfl⟩ := Option.map_eq_some_iff.mp hf
  have h1 := List.find?_some hq
  simp only [Bool.and_eq_true] at h1
  have := List.mem_of_find?_eq_some hq
  rw [← ab_veq_ok h1.1, ← ab_veq_ok h1.2]
  exact this
theorem ab_fd_ok {V : List Value} {h : ax_H} {F : List (ab_V × ab_V × ab_V)} (hF : ab_ca V h F) {o i v : ab_V} (hf : ab_fd F o i = some v) {k : Nat} {x : Int32} (ho : ab_cv V o = some (.ref k)) (hi : ab_cv V i = some (.int x)) : ∃ w, ab_cv V v = some w ∧ ab_rd h k x.toInt = some w := by
  rcases hF _ (ab_fd_in hf) with ⟨k', x', w, e1, e2, e3, e4⟩ | ⟨x', y', z', e1, -⟩
  · rw [ho] at e1
    rw [hi] at e2
    cases e1
    cases e2
    exact ⟨w, e3, e4⟩
  · rw [ho] at e1
    cases e1
theorem ab_fd_sum {V : List Value} {h : ax_H} {F : List (ab_V × ab_V × ab_V)} (hF : ab_ca V h F) {o i v : ab_V} (hf : (o, i, v) ∈ F) {x : Int32} (ho : ab_cv V o = some (.int x)) : ∃ y z : Int32, ab_cv V i = some (.int y) ∧ ab_cv V v = some (.int z) ∧ z.toInt = x.toInt + y.toInt := by
  rcases hF _ hf with ⟨k', x', w, e1, -⟩ | ⟨x', y', z', e1, e2, e3, e4⟩
  · rw [ho] at e1
    cases e1
  · rw [ho] at e1
    cases e1
    exact ⟨y', z', e2, e3, e4⟩
/-- reading a place -/
def ab_load (S : ab_S) (st : List ab_V) (o i : ab_V) (τ : ab_Y) : ab_S := match ab_fd S.2.2.2.2.1 o i with
  | some v => (S.1, v :: st, S.2.2)
  | none => match ab_put S st (ab_rt τ) with
    | (lv, v :: st', Γ, C, F, r) => (lv, v :: st', Γ, C, (o, i, v) :: F, r)
    | S' => S'
theorem ab_load_ok {E : ab_E} {S : ab_S} {V : List Value} {lv : List (Nat × Value)} {st0 st1 : List Value} {st : List ab_V} {h : ax_H} {n cs ss : Nat} {o i : ab_V} {τ : ab_Y} {k : Nat} {x : Int32} {w : Value} (hg : ab_g E S V lv st0 h n cs ss) (hst : ab_stR V st st1) (ho : ab_cv V o = some (.ref k)) (hi : ab_cv V i = some (.int x)) (hr : ab_rd h k x.toInt = some w) (hw : ab_ok n w τ) :
    ∃ V', ab_ext V V' ∧ ab_g E (ab_load S st o i τ) V' lv (w :: st1) h n cs ss := by
  unfold ab_load
  cases e : ab_fd S.2.2.2.2.1 o i with
  | some v =>
    obtain ⟨g1, g2, g3, g4, g5, g6, g7, g8, g9⟩ := hg
    obtain ⟨w', e1, e2⟩ := ab_fd_ok g5 e ho hi
    have : w' = w := Option.some.inj (e2.symm.trans hr)
    subst this
    exact ⟨V, ab_ext_refl V, g1, ⟨e1, hst⟩, g3, g4, g5, g6, g7, g8, g9⟩
  | none =>
    obtain ⟨V'', hx, hg''⟩ := ab_put_ext hg hst (ab_rt_ok (V := V) hw)
    have ho' := ab_ext_cv hx ho
    have hi' := ab_ext_cv hx hi
    generalize ab_put S st (ab_rt τ) = S' at hg''
    obtain ⟨lv', st', Γ, C, F, r⟩ := S'
    cases st' with
    | nil => exact hg''.2.1.elim
    | cons v st' =>
      obtain ⟨g1, g2, g3, g4, g5, g6, g7, g8, g9⟩ := hg''
      refine ⟨V'', hx, g1, g2, g3, g4, fun q hq => ?_, g6, g7, g8, g9⟩
      rcases List.mem_cons.mp hq with rfl | hq
      · exact Or.inl ⟨k, x, w, ho', hi', g2.1, hr⟩
      · exact g5 q hq
def ab_mo (Γ : List ab_Y) (a : ab_V) : Option Nat := match ab_to Γ a with
  | some (.inr (some M)) => some M
  | _ => none
theorem ab_mo_ok {n : Nat} {V : List Value} {Γ : List ab_Y} (hn : 573 ≤ n) (hΓ : ab_ty n V Γ) {a : ab_V} {M : Nat} (h : ab_mo Γ a = some M) {v : Value} (hv : ab_cv V a = some v) : ∃ k, v = .ref k ∧ k < n ∧ M.testBit (ab_k k) = true := by
  unfold ab_mo at h
  split at h
  · rename_i N hN
    cases h
    exact ab_to_ok hn hΓ hN hv
  · cases h
/-- two cells are not the same -/
def ab_apart (Γ : List ab_Y) (a b : ab_V) : Bool := match a, b with
  | .inr (.inr (.inl j)), .inr (.inr (.inl k)) => !(Nat.beq j k)
  | _, _ => match ab_mo Γ a, ab_mo Γ b with
    | some M, some N => Nat.beq (M &&& N) 0
    | _, _ => false
theorem ab_apart_ok {n : Nat} {V : List Value} {Γ : List ab_Y} (hn : 573 ≤ n) (hΓ : ab_ty n V Γ) {a b : ab_V} (h : ab_apart Γ a b = true) {j k : Nat} (ha : ab_cv V a = some (.ref j)) (hb : ab_cv V b = some (.ref k)) : j ≠ k := by
  unfold ab_apart at h
  split at h
  · cases ha
    cases hb
    intro e
    subst e
    simp at h
  · split at h
    · rename_i M N hM hN
      obtain ⟨j', e1, -, h1⟩ := ab_mo_ok hn hΓ hM ha
      obtain ⟨k', e2, -, h2⟩ := ab_mo_ok hn hΓ hN hb
      cases e1
      cases e2
      intro e
      subst e
      have h3 : (M &&& N).testBit (ab_k j) = true := by rw [Nat.testBit_and, h1, h2]; rfl
      have h4 : M &&& N = 0 := by simpa [Nat.beq_eq] using h
      rw [h4] at h3
      simp at h3
    · cases h
/-- two ints are not the same -/
def ab_dif (Γ : List ab_Y) (C : List (Nat × Nat × Int)) (a b : ab_V) : Bool := match ab_ub Γ C 2 a b, ab_ub Γ C 2 b a with
  | some d, some e => decide (d < 0) || decide (e < 0)
  | _, _ => false
theorem ab_dif_ok {n : Nat} {V : List Value} {Γ : List ab_Y} {C : List (Nat × Nat × Int)} (hΓ : ab_ty n V Γ) (hC : ab_co V C) {a b : ab_V} (h : ab_dif Γ C a b = true) {x y : Int32} (ha : ab_cv V a = some (.int x)) (hb : ab_cv V b = some (.int y)) : x.toInt ≠ y.toInt := by
  unfold ab_dif at h
  split at h
  · rename_i d e hd he
    simp only [Bool.or_eq_true, decide_eq_true_eq] at h
    have h1 := ab_ub_ok hΓ hC 2 a b d hd x y ha hb
    have h2 := ab_ub_ok hΓ hC 2 b a e he y x hb ha
    omega
  · cases h
/-- writing a place -/
def ab_wr (S : ab_S) (st : List ab_V) (o i v : ab_V) : ab_S := (S.1, st, S.2.2.1, S.2.2.2.1, (o, i, v) :: S.2.2.2.2.1.filter (fun q => ab_apart S.2.2.1 q.1 o || ab_dif S.2.2.1 S.2.2.2.1 q.2.1 i), S.2.2.2.2.2.1.filter (fun z => ab_apart S.2.2.1 z.1 o || (ab_is S.2.2.1 v z.2.2 || ab_leq S.2.2.1 S.2.2.2.1 3 z.2.1 i 0)), S.2.2.2.2.2.2)
theorem ab_wr_ok {E : ab_E} {S : ab_S} {V : List Value} {lv : List (Nat × Value)} {st0 st1 : List Value} {st : List ab_V} {h h' : ax_H} {n cs ss : Nat} {o i v : ab_V} {k : Nat} {x : Int32} {w : Value} (hg : ab_g E S V lv st0 h n cs ss) (hst : ab_stR V st st1) (ho : ab_cv V o = some (.ref k)) (hi : ab_cv V i = some (.int x)) (hv : ab_cv V v = some w)
    (hrd : ∀ (k' : Nat) (i' : Int), ab_rd h' k' i' = if k' = k ∧ i' = x.toInt then some w else ab_rd h k' i') (hH : ab_HT h' n) (hmd : ab_md E.2.2.2 (ab_k k) x.toInt = true) : ab_g E (ab_wr S st o i v) V lv st1 h' n cs ss := by
  obtain ⟨g1, g2, g3, g4, g5, g6, g7, ⟨g8, g8', g8''⟩, g9⟩ := hg
  have hn := hH.1
  refine ⟨g1, hst, g3, g4, fun q hq => ?_, fun z hz => ?_, g7, ⟨hH, fun k' hk' i' hm => ?_, g8''⟩, g9⟩
  · rcases List.mem_cons.mp hq with rfl | hq
    · exact Or.inl ⟨k, x, w, ho, hi, hv, by rw [hrd, if_pos ⟨rfl, rfl⟩]⟩
    · obtain ⟨hq, hc⟩ := List.mem_filter.mp hq
      rcases g5 q hq with ⟨k', x', w', e1, e2, e3, e4⟩ | g5'
      case inr => exact Or.inr g5'
      refine Or.inl ⟨k', x', w', e1, e2, e3, ?_⟩
      rw [hrd, if_neg, e4]
      rintro ⟨rfl, hx⟩
      simp only [Bool.or_eq_true] at hc
      rcases hc with hc | hc
      · exact ab_apart_ok hn g3 hc e1 ho rfl
      · exact ab_dif_ok g3 g4 hc e2 hi hx
  · obtain ⟨hz, hc⟩ := List.mem_filter.mp hz
    obtain ⟨k', b, e1, e2, e3⟩ := g6 z hz
    refine ⟨k', b, e1, e2, fun j h0 hj => ?_⟩
    obtain ⟨w', f1, f2⟩ := e3 j h0 hj
    rw [hrd]
    by_cases hkj : k' = k ∧ j = x.toInt
    · rw [if_pos hkj]
      simp only [Bool.or_eq_true] at hc
      rcases hc with hc | hc
      · exact absurd hkj.1 (ab_apart_ok hn g3 hc e1 ho)
      rcases hc with hc | hc
      · exact ⟨w, rfl, ab_is_ok hn g3 hc hv⟩
      · have := ab_leq_ok g3 g4 hc e2 hi
        omega
    · rw [if_neg hkj]
      exact ⟨w', f1, f2⟩
  · rw [hrd, if_neg, g8' k' hk' i' hm]
    rintro ⟨rfl, rfl⟩
    rw [hmd] at hm
    cases hm
/-- what is told beyond kinds stands after a write -/
theorem ab_J_st {h h' : ax_H} {k : Nat} {x : Int} {w : Value} (hrd : ∀ (k' : Nat) (i' : Int), ab_rd h' k' i' = if k' = k ∧ i' = x then some w else ab_rd h k' i') (hx : 0 ≤ x) (hpt : ab_pt (ab_k k) x = false)
    (hpq : ab_pq (ab_k k) x = true → ∃ z : Int32, w = .int z ∧ ∀ u : Nat, ab_rd h 28 4 = some (.ref u) → z.toInt ≤ ab_ri h 28 6 ∨ z.toInt ≤ ab_ri h 28 7 ∨ z.toInt ≤ ab_ri h u (-1)) (hJ : ab_J h) : ab_J h' := by
  refine ab_J_keep (fun k' i' hp => ?_) (fun k' i' hi => ?_) (fun u hu => ?_) hJ
  · rw [hrd, if_neg]
    rintro ⟨rfl, rfl⟩
    rw [hpt] at hp
    cases hp
  · rw [hrd, if_neg]
    rintro ⟨-, rfl⟩
    omega
  · have key : ∀ j : Int, (j = 6 ∨ j = 7) → ab_ri h' 28 j = ab_ri h 28 j ∨ ab_ri h' 28 j ≤ ab_ri h 28 6 ∨ ab_ri h' 28 j ≤ ab_ri h 28 7 ∨ ab_ri h' 28 j ≤ ab_ri h u (-1) := by
      intro j hj
      by_cases e : 28 = k ∧ j = x
      · obtain ⟨e1, e2⟩ := e
        subst e1 e2
        right
        obtain ⟨z, rfl, hz⟩ := hpq (by rcases hj with rfl | rfl <;> rfl)
        have h2 : ab_ri h' 28 j = z.toInt := by
          unfold ab_ri
          rw [hrd, if_pos ⟨rfl, rfl⟩]
        rw [h2]
        exact hz u hu
      · left
        exact ab_ri_of (by rw [hrd, if_neg e])
    have k6 := key 6 (Or.inl rfl)
    have k7 := key 7 (Or.inr rfl)
    constructor <;> omega
end
section
/-! ===== one step, over abstract states ===== -/
theorem ab_lk_ok {V : List Value} {k : Nat} {a : ab_V} {L : List (Nat × ab_V)} {lv : List (Nat × Value)} (hl : ab_lvR V L lv) (h : ab_lk L k = some a) : ∃ v, ax_look lv k = some v ∧ ab_cv V a = some v := hl k a h
def ab_ct (Γ : List ab_Y) : ab_V → Nat
  | .inr (.inl u) => match Γ[u]? with
    | some (.inr none) => 2
    | _ => 1
  | _ => 1
theorem ab_ct_ok {n : Nat} {V : List Value} {Γ : List ab_Y} (hΓ : ab_ty n V Γ) {a : ab_V} {v : Value} (hv : ab_cv V a = some v) : v.category = ab_ct Γ a := by
  rcases a with c | (u | (k | j))
  · simp only [ab_cv] at hv
    cases e : ab_rng c with
    | false => rw [e] at hv; cases hv
    | true => rw [e] at hv; cases hv; rfl
  · have hu : u < Γ.length := by
      rw [← hΓ.1]; exact (List.getElem?_eq_some_iff.mp hv).1
    obtain ⟨w, h1, h2⟩ := hΓ.2 u _ (List.getElem?_eq_getElem hu)
    have hw : w = v := Option.some.inj (h1.symm.trans hv)
    subst hw
    simp only [ab_ct, List.getElem?_eq_getElem hu]
    generalize Γ[u] = τ at h2
    rcases τ with ⟨lo, hi, f⟩ | (_ | M)
    · obtain ⟨x, rfl, -⟩ := h2; rfl
    · obtain ⟨x, rfl⟩ := h2; rfl
    · obtain ⟨k, rfl, -⟩ := h2; rfl
  · cases hv; rfl
  · cases hv; rfl
theorem ab_nb (a b : Nat) : (a == b) = Nat.beq a b := by
  rw [Bool.eq_iff_iff]
  simp [Nat.beq_eq]
theorem ax_look_fil {p : Nat × Value → Bool} {k : Nat} {v : Value} : ∀ {lv : List (Nat × Value)}, ax_look lv k = some v → p (k, v) = true → ax_look (lv.filter p) k = some v
  | [], h, _ => by cases h
  | r :: lv, h, hp => by
    unfold ax_look at h
    rw [List.find?_cons] at h
    cases e : (r.1 == k) with
    | true =>
      rw [e] at h
      have hr : r = (k, v) := by
        have h1 : r.1 = k := by simpa using e
        have h2 : r.2 = v := Option.some.inj h
        rw [← h1, ← h2]
      rw [List.filter_cons, hr, hp]
      unfold ax_look
      rw [if_pos rfl, List.find?_cons]
      simp
    | false =>
      rw [e] at h
      have ih := ax_look_fil (lv := lv) h hp
      rw [List.filter_cons]
      split
      · unfold ax_look at ih ⊢
        rw [List.find?_cons, e]
        exact ih
      · exact ih
theorem ab_lk_fil {pk : Nat → Bool} {k : Nat} {b : ab_V} : ∀ {L : List (Nat × ab_V)}, ab_lk (L.filter fun q => pk q.1) k = some b → pk k = true ∧ ab_lk L k = some b
  | [], h => by cases h
  | r :: L, h => by
    rw [List.filter_cons] at h
    unfold ab_lk
    rw [List.find?_cons]
    cases e : Nat.beq r.1 k with
    | true =>
      have h1 : r.1 = k := by simpa [Nat.beq_eq] using e
      cases ep : pk r.1 with
      | true =>
        rw [ep, if_pos rfl] at h
        unfold ab_lk at h
        rw [List.find?_cons, e] at h
        exact ⟨by rw [← h1]; exact ep, h⟩
      | false =>
        rw [ep, if_neg (by simp)] at h
        have := (ab_lk_fil (L := L) h).1
        rw [← h1, ep] at this
        cases this
    | false =>
      cases ep : pk r.1 with
      | true =>
        rw [ep, if_pos rfl] at h
        unfold ab_lk at h
        rw [List.find?_cons, e] at h
        exact ab_lk_fil (L := L) h
      | false =>
        rw [ep, if_neg (by simp)] at h
        exact ab_lk_fil (L := L) h
def ab_lg (Γ : List ab_Y) (L : List (Nat × ab_V)) (j i : Nat) : Bool := Nat.beq (j + 1) i && match ab_lk L j with
  | some b => Nat.beq (ab_ct Γ b) 2
  | none => false
theorem ab_lg_ok {n : Nat} {V : List Value} {Γ : List ab_Y} (hΓ : ab_ty n V Γ) {L : List (Nat × ab_V)} {j i : Nat} {b : ab_V} {v : Value} (hb : ab_lk L j = some b) (hv : ab_cv V b = some v) (h : ab_lg Γ L j i = false) : (j + 1 == i && v.category == 2) = false := by
  unfold ab_lg at h
  rw [hb] at h
  rw [ab_ct_ok hΓ hv]
  cases e1 : Nat.beq (j + 1) i with
  | false => rw [ab_nb (j + 1) i, e1]; rfl
  | true =>
    rw [e1] at h
    rw [ab_nb (ab_ct Γ b) 2, show Nat.beq (ab_ct Γ b) 2 = false from h, Bool.and_false]
def ab_p1 (Γ : List ab_Y) (L : List (Nat × ab_V)) (i : Nat) (a : ab_V) : List (Nat × ab_V) := (i, a) :: L.filter (fun q => !(Nat.beq q.1 i) && !(ab_lg Γ L q.1 i))
def ab_p2 (Γ : List ab_Y) (L : List (Nat × ab_V)) (i : Nat) (a : ab_V) : List (Nat × ab_V) := (i, a) :: L.filter (fun q => !(Nat.beq q.1 i) && (!(Nat.beq q.1 (i + 1)) && !(ab_lg Γ L q.1 i)))
theorem ab_p1_ok {n : Nat} {V : List Value} {Γ : List ab_Y} (hΓ : ab_ty n V Γ) {L : List (Nat × ab_V)} {lv : List (Nat × Value)} (h : ab_lvR V L lv) {i : Nat} {a : ab_V} {v : Value} (hv : ab_cv V a = some v) : ab_lvR V (ab_p1 Γ L i a) (ax_put1 lv i v) := by
  intro k b hk
  unfold ab_p1 ab_lk at hk
  unfold ax_put1 ax_look
  rw [List.find?_cons] at hk ⊢
  rw [show ((i, v).1 == k) = Nat.beq i k from ab_nb i k]
  cases e : Nat.beq i k with
  | true => rw [show Nat.beq (i, a).1 k = true from e] at hk; cases hk; exact ⟨v, rfl, hv⟩
  | false =>
    rw [show Nat.beq (i, a).1 k = false from e] at hk
    obtain ⟨h1, h2⟩ := ab_lk_fil (pk := fun j => !(Nat.beq j i) && !(ab_lg Γ L j i)) hk
    obtain ⟨w, h3, h4⟩ := h k b h2
    simp only [Bool.and_eq_true, Bool.not_eq_true'] at h1
    refine ⟨w, ax_look_fil h3 ?_, h4⟩
    have := ab_lg_ok hΓ h2 h4 h1.2
    rw [show ((k, w).1 == i) = Nat.beq k i from ab_nb k i, h1.1]
    simp only [this, Bool.not_false, Bool.and_self]
theorem ab_p2_ok {n : Nat} {V : List Value} {Γ : List ab_Y} (hΓ : ab_ty n V Γ) {L : List (Nat × ab_V)} {lv : List (Nat × Value)} (h : ab_lvR V L lv) {i : Nat} {a : ab_V} {v : Value} (hv : ab_cv V a = some v) : ab_lvR V (ab_p2 Γ L i a) (ax_put2 lv i v) := by
  intro k b hk
  unfold ab_p2 ab_lk at hk
  unfold ax_put2 ax_look
  rw [List.find?_cons] at hk ⊢
  rw [show ((i, v).1 == k) = Nat.beq i k from ab_nb i k]
  cases e : Nat.beq i k with
  | true => rw [show Nat.beq (i, a).1 k = true from e] at hk; cases hk; exact ⟨v, rfl, hv⟩
  | false =>
    rw [show Nat.beq (i, a).1 k = false from e] at hk
    obtain ⟨h1, h2⟩ := ab_lk_fil (pk := fun j => !(Nat.beq j i) && (!(Nat.beq j (i + 1)) && !(ab_lg Γ L j i))) hk
    obtain ⟨w, h3, h4⟩ := h k b h2
    simp only [Bool.and_eq_true, Bool.not_eq_true'] at h1
    refine ⟨w, ax_look_fil h3 ?_, h4⟩
    have := ab_lg_ok hΓ h2 h4 h1.2.2
    rw [show ((k, w).1 == i) = Nat.beq k i from ab_nb k i, h1.1, show ((k, w).1 == i + 1) = Nat.beq k (i + 1) from ab_nb k (i + 1), h1.2.1]
    simp only [this, Bool.not_false, Bool.and_self]
/-- 0 an int, 1 a cell or a static array, 2 a long -/
def ab_kd (Γ : List ab_Y) : ab_V → Option Nat
  | .inl c => bif ab_rng c then some 0 else none
  | .inr (.inl u) => match Γ[u]? with
    | some (.inl _) => some 0
    | some (.inr none) => some 2
    | some (.inr (some _)) => some 1
    | none => none
  | .inr (.inr _) => some 1
theorem ab_kd_ok {n : Nat} {V : List Value} {Γ : List ab_Y} (hΓ : ab_ty n V Γ) {a : ab_V} {v : Value} (hv : ab_cv V a = some v) {d : Nat} (h : ab_kd Γ a = some d) : (d = 0 ∧ ∃ x, v = .int x) ∨ (d = 1 ∧ ((∃ k, v = .ref k) ∨ ∃ j, v = .retAddr j)) ∨ (d = 2 ∧ ∃ x, v = .long x) := by
  rcases a with c | (u | (k | j))
  · simp only [ab_cv, ab_kd] at hv h
    cases e : ab_rng c with
    | false => rw [e] at hv; cases hv
    | true => rw [e] at hv h; cases hv; cases h; exact Or.inl ⟨rfl, _, rfl⟩
  · simp only [ab_kd] at h
    cases e : Γ[u]? with
    | none => rw [e] at h; cases h
    | some τ =>
      obtain ⟨w, h1, h2⟩ := hΓ.2 u τ e
      have hw : w = v := Option.some.inj (h1.symm.trans hv)
      subst hw
      rw [e] at h
      rcases τ with ⟨lo, hi, f⟩ | (_ | M)
      · cases h; obtain ⟨x, rfl, -⟩ := h2; exact Or.inl ⟨rfl, x, rfl⟩
      · cases h; obtain ⟨x, rfl⟩ := h2; exact Or.inr (Or.inr ⟨rfl, x, rfl⟩)
      · cases h; obtain ⟨k, rfl, -⟩ := h2; exact Or.inr (Or.inl ⟨rfl, Or.inl ⟨k, rfl⟩⟩)
  · cases hv; cases h; exact Or.inr (Or.inl ⟨rfl, Or.inl ⟨k, rfl⟩⟩)
  · cases hv; cases h; exact Or.inr (Or.inl ⟨rfl, Or.inr ⟨j, rfl⟩⟩)
abbrev ab_L : Type := Option (List (Nat × ab_S))
/-- a concrete outcome is among the abstract ones -/
def ab_in (E : ab_E) (L : List (Nat × ab_S)) (F : ax_F) : Prop := ∃ q ∈ L, F.1 = q.1 ∧ ∃ V, ab_g E q.2 V F.2.1 F.2.2.1 F.2.2.2.1 F.2.2.2.2.1 F.2.2.2.2.2.1 F.2.2.2.2.2.2
theorem ab_in1 {E : ab_E} {S : ab_S} {V : List Value} {pc : Nat} {lv : List (Nat × Value)} {st : List Value} {h : ax_H} {n cs ss : Nat} (hg : ab_g E S V lv st h n cs ss) : ab_in E [(pc, S)] (pc, lv, st, h, n, cs, ss) := ⟨_, List.mem_singleton.mpr rfl, rfl, V, hg⟩
section STP
variable {E : ab_E} {S : ab_S} {V : List Value} {pc nL : Nat} {lv : List (Nat × Value)} {st : List Value} {h : ax_H} {n cs ss : Nat} {L : List (Nat × ab_S)} {iv : Nat → Int × Int} {pe : ax_PE}
def ab_push (S : ab_S) (pc : Nat) (c : Int) : ab_L := bif ab_rng c then some [(pc, (S.1, .inl c :: S.2.1, S.2.2))] else none
theorem ab_push_ok (hg : ab_g E S V lv st h n cs ss) {c : Int} (hs : ab_push S pc c = some L) : ab_in E L (pc, lv, .int (Int32.ofInt c) :: st, h, n, cs, ss) := by
  unfold ab_push at hs
  cases e : ab_rng c with
  | false => rw [e] at hs; cases hs
  | true =>
    rw [e] at hs
    cases hs
    obtain ⟨g1, g2, g3, g4, g5, g6, g7, g8, g9⟩ := hg
    exact ab_in1 (V := V) ⟨g1, ⟨by simp only [ab_cv, e, cond_true], g2⟩, g3, g4, g5, g6, g7, g8, g9⟩
/-- a long more -/
def ab_long (S : ab_S) (st : List ab_V) : ab_S := ab_put S st (.inr (.inr none, []))
theorem ab_long_ok {st1 : List Value} {st' : List ab_V} (hg : ab_g E S V lv st h n cs ss) (hst : ab_stR V st' st1) (x : Int64) : ab_in E [(pc, ab_long S st')] (pc, lv, .long x :: st1, h, n, cs, ss) := by
  obtain ⟨V', hg'⟩ := ab_put_ok (r := .inr (.inr none, [])) (w := .long x) hg hst ⟨⟨x, rfl⟩, ab_no⟩
  exact ab_in1 hg'
def ab_ld (S : ab_S) (pc k d : Nat) : ab_L := match ab_lk S.1 k with
  | some a => match ab_kd S.2.2.1 a with
    | some d' => bif Nat.beq d' d then some [(pc, (S.1, a :: S.2.1, S.2.2))] else none
    | none => none
  | none => none
theorem ab_ld_ok (hg : ab_g E S V lv st h n cs ss) {len k d : Nat} (hs : ab_ld S (pc + len) k d = some L) : ∃ F, ax_s_ld pc lv st h n cs ss len k d = some F ∧ ab_in E L F := by
  obtain ⟨g1, g2, g3, g4, g5, g6, g7, g8, g9⟩ := hg
  unfold ab_ld at hs
  split at hs
  · rename_i a ha
    obtain ⟨v, hv1, hv2⟩ := ab_lk_ok g1 ha
    split at hs
    · rename_i d' hd'
      cases e : Nat.beq d' d with
      | false => rw [e] at hs; cases hs
      | true =>
        rw [e] at hs
        cases hs
        have e' : d' = d := by simpa [Nat.beq_eq] using e
        subst e'
        refine ⟨(pc + len, lv, v :: st, h, n, cs, ss), ?_, ab_in1 (V := V) ⟨g1, ⟨hv2, g2⟩, g3, g4, g5, g6, g7, g8, g9⟩⟩
        unfold ax_s_ld
        rw [hv1]
        rcases ab_kd_ok g3 hv2 hd' with ⟨rfl, x, rfl⟩ | ⟨rfl, ⟨k, rfl⟩ | ⟨j, rfl⟩⟩ | ⟨rfl, x, rfl⟩ <;> rfl
    · cases hs
  · cases hs
def ab_sto (nL : Nat) (S : ab_S) (pc k d : Nat) : ab_L := match S.2.1 with
  | a :: st => match ab_kd S.2.2.1 a with
    | some d' => bif Nat.beq d' d && Nat.blt (bif Nat.beq d 2 then k + 1 else k) nL then some [(pc, ((bif Nat.beq d 2 then ab_p2 S.2.2.1 S.1 k a else ab_p1 S.2.2.1 S.1 k a), st, S.2.2))] else none
    | none => none
  | [] => none
theorem ab_sto_ok (hg : ab_g E S V lv st h n cs ss) {len k d : Nat} (hs : ab_sto nL S (pc + len) k d = some L) : ∃ F, ax_s_st nL pc lv st h n cs ss len k d = some F ∧ ab_in E L F := by
  obtain ⟨lv0, st0, Γ, rest⟩ := S
  obtain ⟨g1, g2, g3, g4, g5, g6, g7, g8, g9⟩ := hg
  cases st0 with
  | nil => cases hs
  | cons a st0 =>
    cases st with
    | nil => exact g2.elim
    | cons v st =>
      unfold ab_sto at hs
      simp only at hs
      cases hk : ab_kd Γ a with
      | none => rw [hk] at hs; cases hs
      | some d' =>
        rw [hk] at hs
        simp only at hs
        cases e : (Nat.beq d' d && Nat.blt (bif Nat.beq d 2 then k + 1 else k) nL) with
        | false => rw [e] at hs; cases hs
        | true =>
          rw [e] at hs
          cases hs
          simp only [Bool.and_eq_true, Nat.beq_eq] at e
          obtain ⟨rfl, e2⟩ := e
          rcases ab_kd_ok g3 g2.1 hk with ⟨rfl, x, rfl⟩ | ⟨rfl, ⟨j, rfl⟩ | ⟨j, rfl⟩⟩ | ⟨rfl, x, rfl⟩
          · have e3 : Nat.blt k nL = true := e2
            exact ⟨_, by simp only [ax_s_st, e3]; rfl, ab_in1 (V := V) ⟨ab_p1_ok g3 g1 g2.1, g2.2, g3, g4, g5, g6, g7, g8, g9⟩⟩
          · have e3 : Nat.blt k nL = true := e2
            exact ⟨_, by simp only [ax_s_st, e3]; rfl, ab_in1 (V := V) ⟨ab_p1_ok g3 g1 g2.1, g2.2, g3, g4, g5, g6, g7, g8, g9⟩⟩
          · have e3 : Nat.blt k nL = true := e2
            exact ⟨_, by simp only [ax_s_st, e3]; rfl, ab_in1 (V := V) ⟨ab_p1_ok g3 g1 g2.1, g2.2, g3, g4, g5, g6, g7, g8, g9⟩⟩
          · have e3 : Nat.blt (k + 1) nL = true := e2
            exact ⟨_, by simp only [ax_s_st, e3]; rfl, ab_in1 (V := V) ⟨ab_p2_ok g3 g1 g2.1, g2.2, g3, g4, g5, g6, g7, g8, g9⟩⟩
abbrev ab_O : Type := List ab_Y → List (Nat × Nat × Int) → Nat → ab_V → ab_V → Int × Int → Int × Int → Option ab_R
def ab_i2 (f : ab_O) (S : ab_S) (pc : Nat) : ab_L := match S.2.1 with
  | b :: a :: st => match ab_iv S.2.2.1 a, ab_iv S.2.2.1 b with
    | some p, some q => (f S.2.2.1 S.2.2.2.1 S.2.2.1.length a b p q).map fun r => [(pc, ab_put S st r)]
    | _, _ => none
  | _ => none
/-- an operation's bounds are right -/
def ab_Oo (f : ab_O) (op : Int32 → Int32 → Int32) : Prop := ∀ (n : Nat) (V : List Value) (Γ : List ab_Y) (C : List (Nat × Nat × Int)) (a b : ab_V) (p q : Int × Int) (x y : Int32) (r : ab_R), ab_ty n V Γ → ab_co V C → ab_cv V a = some (.int x) → ab_cv V b = some (.int y) → p.1 ≤ x.toInt ∧ x.toInt ≤ p.2 → q.1 ≤ y.toInt ∧ y.toInt ≤ q.2 → f Γ C V.length a b p q = some r → ab_den n V r (.int (op x y))
theorem ab_i2_sh (hg : ab_g E S V lv st h n cs ss) {f : ab_O} (hs : ab_i2 f S pc = some L) : ∃ (x y : Int32) (st' : List Value) (a b : ab_V) (sta : List ab_V) (p q : Int × Int) (r : ab_R), st = .int y :: .int x :: st' ∧ S.2.1 = b :: a :: sta ∧ ab_stR V sta st' ∧ ab_cv V a = some (.int x) ∧ ab_cv V b = some (.int y) ∧ (p.1 ≤ x.toInt ∧ x.toInt ≤ p.2) ∧ (q.1 ≤ y.toInt ∧ y.toInt ≤ q.2) ∧ f S.2.2.1 S.2.2.2.1 V.length a b p q = some r ∧ L = [(pc, ab_put S sta r)] := by
  obtain ⟨lv0, st0, Γ, C, rest⟩ := S
  obtain ⟨g1, g2, g3, g4, g5, g6, g7, g8, g9⟩ := hg
  match st0, st, g2, hs with
  | [], _, _, hs => cases hs
  | [_], _, _, hs => cases hs
  | b :: a :: sta, [], g2, _ => exact g2.elim
  | b :: a :: sta, [v], g2, _ => exact g2.2.elim
  | b :: a :: sta, v :: w :: st', g2, hs =>
    simp only [ab_i2] at hs
    split at hs
    · rename_i p q hp hq
      obtain ⟨r, hr, rfl⟩ := Option.map_eq_some_iff.mp hs
      obtain ⟨y, rfl, hy⟩ := ab_iv_ok g3 hq g2.1
      obtain ⟨x, rfl, hx⟩ := ab_iv_ok g3 hp g2.2.1
      exact ⟨x, y, st', a, b, sta, p, q, r, rfl, rfl, g2.2.2, g2.2.1, g2.1, hx, hy, by rw [g3.1]; exact hr, rfl⟩
    · cases hs
theorem ab_i2_ok (hg : ab_g E S V lv st h n cs ss) {f : ab_O} {op : Int32 → Int32 → Int32} (hf : ab_Oo f op) (hs : ab_i2 f S (pc + 1) = some L) : ∃ F, ax_s_i2 pc lv st h n cs ss op = some F ∧ ab_in E L F := by
  obtain ⟨x, y, st', a, b, sta, p, q, r, rfl, h2, h3, h4, h5, h6, h7, h8, rfl⟩ := ab_i2_sh hg hs
  obtain ⟨V', hg'⟩ := ab_put_ok hg h3 (hf n V _ _ a b p q x y r hg.2.2.1 hg.2.2.2.1 h4 h5 h6 h7 h8)
  exact ⟨_, rfl, ab_in1 hg'⟩
/-- an operation whose second operand must not be 0 -/
def ab_Od (f : ab_O) (op : Int32 → Int32 → Int32) : Prop := ∀ (n : Nat) (V : List Value) (Γ : List ab_Y) (C : List (Nat × Nat × Int)) (a b : ab_V) (p q : Int × Int) (x y : Int32) (r : ab_R), ab_ty n V Γ → ab_co V C → ab_cv V a = some (.int x) → ab_cv V b = some (.int y) → p.1 ≤ x.toInt ∧ x.toInt ≤ p.2 → q.1 ≤ y.toInt ∧ y.toInt ≤ q.2 → f Γ C V.length a b p q = some r → y ≠ 0 ∧ ab_den n V r (.int (op x y))
theorem ab_d2_step (hg : ab_g E S V lv st h n cs ss) {f : ab_O} {op : Int32 → Int32 → Int32} (hf : ab_Od f op) (hs : ab_i2 f S (pc + 1) = some L) : ∃ F, ax_s_div pc lv st h n cs ss op = some F ∧ ab_in E L F := by
  obtain ⟨x, y, st', a, b, sta, p, q, r, rfl, h2, h3, h4, h5, h6, h7, h8, rfl⟩ := ab_i2_sh hg hs
  obtain ⟨h9, h10⟩ := hf n V _ _ a b p q x y r hg.2.2.1 hg.2.2.2.1 h4 h5 h6 h7 h8
  obtain ⟨V', hg'⟩ := ab_put_ok hg h3 h10
  refine ⟨(pc + 1, lv, .int (op x y) :: st', h, n, cs, ss), ?_, ab_in1 hg'⟩
  show (bif decide (y = 0) then none else _) = _
  rw [decide_eq_false h9]; rfl
def ab_oadd : ab_O := fun _ _ t a b p q => some (ab_add t a b p q)
def ab_osub : ab_O := fun Γ C t a b p q => some (ab_sub Γ C t a b p q)
def ab_mul2 (t : Nat) (a : ab_V) (p q : Int × Int) : ab_R := bif decide (q.1 = q.2) && (decide (1 ≤ q.1) && decide (0 ≤ p.1)) then ab_mk (p.1 * q.1) (p.2 * q.1) 0 (ab_d2 t a ((q.1 - 1) * p.1) ((q.1 - 1) * p.2)) else ab_mul p q
theorem ab_mul2_ok {V : List Value} {n : Nat} {a : ab_V} {p q : Int × Int} {x y : Int32} (ha : ab_cv V a = some (.int x)) (hp : p.1 ≤ x.toInt ∧ x.toInt ≤ p.2) (hq : q.1 ≤ y.toInt ∧ y.toInt ≤ q.2) : ab_den n V (ab_mul2 V.length a p q) (.int (x * y)) := by
  unfold ab_mul2
  cases e : (decide (q.1 = q.2) && (decide (1 ≤ q.1) && decide (0 ≤ p.1))) with
  | false => exact ab_mul_ok hp hq
  | true =>
    simp only [Bool.and_eq_true, decide_eq_true_eq] at e
    refine ab_mk_ok fun r1 r2 => ?_
    rw [ab_rng_iff] at r1 r2
    have hy : y.toInt = q.1 := by omega
    have h1 := Int.mul_le_mul_of_nonneg_right hp.1 (show 0 ≤ q.1 by omega)
    have h2 := Int.mul_le_mul_of_nonneg_right hp.2 (show 0 ≤ q.1 by omega)
    have h3 := Int.mul_le_mul_of_nonneg_left hp.1 (show 0 ≤ q.1 - 1 by omega)
    have h4 := Int.mul_le_mul_of_nonneg_left hp.2 (show 0 ≤ q.1 - 1 by omega)
    have hz : (x * y).toInt = x.toInt * q.1 := by rw [Int32.toInt_mul, hy, ab_bm (by omega) (by omega)]
    have hd : (q.1 - 1) * x.toInt = x.toInt * q.1 - x.toInt := by rw [Int.sub_mul, Int.one_mul, Int.mul_comm]
    rw [hd] at h3 h4
    refine ⟨by omega, by omega, trivial, ab_d2_ok ha (by omega) (by omega)⟩
def ab_omul : ab_O := fun _ _ t a _ p q => some (ab_mul2 t a p q)
def ab_oand : ab_O := fun Γ _ _ a b p q => some (ab_and b (ab_fg Γ a) p q)
def ab_oor : ab_O := fun _ _ _ _ _ p q => some (ab_or p q)
def ab_oshl : ab_O := fun _ _ _ a _ p q => some (ab_shl a p q)
def ab_oshr : ab_O := fun Γ _ t a _ p q => some (ab_shr t a (ab_fg Γ a) p q)
def ab_odiv : ab_O := fun _ _ t a _ p q => ab_div t a p q
def ab_orem : ab_O := fun _ _ t a b p q => bif decide (0 ≤ p.1) && decide (p.2 < q.1) then some (.inl a) else ab_rem t b p q
theorem ab_oadd_ok : ab_Oo ab_oadd (fun x y => x + y) := fun n V Γ C a b p q x y r hΓ hC ha hb hp hq h => by cases h; exact ab_add_ok ha hb hp hq
theorem ab_osub_ok : ab_Oo ab_osub (fun x y => x - y) := fun n V Γ C a b p q x y r hΓ hC ha hb hp hq h => by cases h; exact ab_sub_ok hΓ hC ha hb hp hq
theorem ab_omul_ok : ab_Oo ab_omul (fun x y => x * y) := fun n V Γ C a b p q x y r hΓ hC ha hb hp hq h => by cases h; exact ab_mul2_ok ha hp hq
theorem ab_oand_ok : ab_Oo ab_oand (fun x y => x &&& y) := fun n V Γ C a b p q x y r hΓ hC ha hb hp hq h => by cases h; exact ab_and_ok hb (ab_fg_ok hΓ ha) hp hq
theorem ab_oor_ok : ab_Oo ab_oor (fun x y => x ||| y) := fun n V Γ C a b p q x y r hΓ hC ha hb hp hq h => by cases h; exact ab_or_ok hp hq
theorem ab_oshl_ok : ab_Oo ab_oshl (fun x y => x <<< (y &&& 31)) := fun n V Γ C a b p q x y r hΓ hC ha hb hp hq h => by cases h; exact ab_shl_ok ha hp hq
theorem ab_oshr_ok : ab_Oo ab_oshr (fun x y => x >>> (y &&& 31)) := fun n V Γ C a b p q x y r hΓ hC ha hb hp hq h => by cases h; exact ab_shr_ok ha (ab_fg_ok hΓ ha) hp hq
theorem ab_odiv_ok : ab_Od ab_odiv (fun x y => x / y) := fun n V Γ C a b p q x y r hΓ hC ha hb hp hq h => ab_div_ok ha hp hq h
theorem ab_orem_ok : ab_Od ab_orem (fun x y => x - x / y * y) := fun n V Γ C a b p q x y r hΓ hC ha hb hp hq h => by
  unfold ab_orem at h
  cases e : (decide (0 ≤ p.1) && decide (p.2 < q.1)) with
  | true =>
    rw [e] at h
    cases h
    simp only [Bool.and_eq_true, decide_eq_true_eq] at e
    refine ⟨fun h => by rw [h] at hq; have : (0 : Int32).toInt = 0 := rfl; omega, ?_⟩
    show ab_cv V a = _
    rw [ha]
    congr 2
    apply Int32.toInt_inj.mp
    rw [ab_rem_e (by omega), Int.tmod_eq_emod_of_nonneg (by omega), Int.emod_eq_of_lt (by omega) (by omega)]
  | false =>
    rw [e] at h
    exact ab_rem_ok hb hp hq h
/-- a branch -/
def ab_br (S : ab_S) (pc : Nat) (c : ClassFile.Cond) (off : Int) (a b : ab_V) (st : List ab_V) : ab_L := match ax_to pc off, ab_iv S.2.2.1 a, ab_iv S.2.2.1 b with
  | some tg, some p, some q => some ((match ab_as c S.2.2.1 S.2.2.2.1 a b p q with
      | some r => [(tg, (S.1, st, r.1, r.2, S.2.2.2.2))]
      | none => []) ++ (match ab_as (ab_ng c) S.2.2.1 S.2.2.2.1 a b p q with
      | some r => [(pc + 3, (S.1, st, r.1, r.2, S.2.2.2.2))]
      | none => []))
  | _, _, _ => none
theorem ab_cmp_some (c : ClassFile.Cond) (x y : Int) : ∃ t, ax_cmp c (x, x) (y, y) = some t := by
  have hlt : ∀ x y : Int, ∃ t, ax_lt (x, x) (y, y) = some t := by
    intro x y
    unfold ax_lt
    by_cases h : x < y
    · exact ⟨true, by simp only [decide_eq_true h, cond_true]⟩
    · exact ⟨false, by simp only [decide_eq_false h, decide_eq_true (Int.not_lt.mp h), cond_false, cond_true]⟩
  have heq : ∃ t, ax_eq (x, x) (y, y) = some t := by
    unfold ax_eq
    by_cases h : x = y
    · subst h; exact ⟨true, by simp⟩
    · refine ⟨false, ?_⟩
      have : (decide (x < y) || decide (y < x)) = true := by simp only [Bool.or_eq_true, decide_eq_true_eq]; omega
      simp only [this, cond_true]
  cases c with
  | eq => exact heq
  | ne => obtain ⟨t, ht⟩ := heq; exact ⟨!t, by simp only [ax_cmp, ht, Option.map_some]⟩
  | lt => exact hlt x y
  | ge => obtain ⟨t, ht⟩ := hlt x y; exact ⟨!t, by simp only [ax_cmp, ht, Option.map_some]⟩
  | gt => exact hlt y x
  | le => obtain ⟨t, ht⟩ := hlt y x; exact ⟨!t, by simp only [ax_cmp, ht, Option.map_some]⟩
theorem ab_br_ok {c : ClassFile.Cond} {off : Int} {a b : ab_V} {x y : Int32} {st1 : List Value} {st' : List ab_V} (hg : ab_g E S V lv st h n cs ss) (hst : ab_stR V st' st1) (ha : ab_cv V a = some (.int x)) (hb : ab_cv V b = some (.int y)) (hs : ab_br S pc c off a b st' = some L) : ∃ F, ax_s_br iv pc lv h n cs ss c off (.int x) (.int y) st1 = some F ∧ ab_in E L F := by
  obtain ⟨g1, g2, g3, g4, g5, g6, g7, g8, g9⟩ := hg
  unfold ab_br at hs
  split at hs
  · rename_i tg p q ht hp hq
    cases hs
    obtain ⟨x', e1, hx⟩ := ab_iv_ok g3 hp ha
    cases e1
    obtain ⟨y', e2, hy⟩ := ab_iv_ok g3 hq hb
    cases e2
    obtain ⟨t, hc⟩ := ab_cmp_some c x.toInt y.toInt
    have hiff := ax_cmp_ok (a := (x.toInt, x.toInt)) (b := (y.toInt, y.toInt)) ⟨Int.le_refl _, Int.le_refl _⟩ ⟨Int.le_refl _, Int.le_refl _⟩ hc
    unfold ax_s_br
    simp only [ht, ax_rg, hc]
    cases t with
    | true =>
      obtain ⟨r, hr, t1, t2⟩ := ab_as_ok g3 g4 ha hb hx hy (hiff.mpr rfl)
      refine ⟨_, rfl, _, List.mem_append_left _ (by rw [hr]; exact List.mem_singleton.mpr rfl), rfl, V, g1, hst, t1, t2, g5, g6, g7, g8, g9⟩
    | false =>
      obtain ⟨r, hr, t1, t2⟩ := ab_as_ok g3 g4 ha hb hx hy (ab_ng_ok (fun q => by have := hiff.mp q; cases this))
      refine ⟨_, rfl, _, List.mem_append_right _ (by rw [hr]; exact List.mem_singleton.mpr rfl), rfl, V, g1, hst, t1, t2, g5, g6, g7, g8, g9⟩
  · cases hs
end STP
end
