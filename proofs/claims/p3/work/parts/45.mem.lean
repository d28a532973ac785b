/-! ===== what was read stays known; writing ===== -/
def ab_uqB : Bool := (List.range 576).all fun k => ab_uq.all fun q => !(Nat.beq (ab_k k) q.1) || Nat.beq k q.2
def ab_uqC : Bool := ab_uq.all fun q => !(Nat.beq q.1 34)
set_option maxRecDepth 100000 in
theorem ab_uqB_ok : ab_uqB = true := by decide +kernel
set_option maxRecDepth 100000 in
theorem ab_uqC_ok : ab_uqC = true := by decide +kernel
theorem ab_k_far {k : Nat} (h : 576 ≤ k) : ab_k k = 34 := by
  unfold ab_k
  have h1 : kd_all.getD (k / 32) [] = [] := by
    rw [List.getD_eq_getElem?_getD, List.getElem?_eq_none (show 18 ≤ k / 32 by omega)]; rfl
  rw [h1]; rfl
theorem ab_uq_ok {q : Nat × Nat} (hq : q ∈ ab_uq) {k : Nat} (hk : ab_k k = q.1) : k = q.2 := by
  by_cases h : k < 576
  · have h1 := List.all_eq_true.mp (List.all_eq_true.mp ab_uqB_ok k (List.mem_range.mpr h)) q hq
    simp only [Bool.or_eq_true, Bool.not_eq_true', Nat.beq_eq] at h1
    rcases h1 with h1 | h1
    · rw [hk] at h1
      simp at h1
    · exact h1
  · have h1 := List.all_eq_true.mp ab_uqC_ok q hq
    rw [← hk, ab_k_far (by omega)] at h1
    simp at h1
def ab_one (M : Nat) : Option Nat := (ab_uq.find? fun q => Nat.beq M (2 ^ q.1)).map (·.2)
theorem ab_one_ok {M c : Nat} (h : ab_one M = some c) {k : Nat} (hk : M.testBit (ab_k k) = true) : k = c := by
  unfold ab_one at h
  obtain ⟨q, hq, rfl⟩ := Option.map_eq_some_iff.mp h
  have h1 : M = 2 ^ q.1 := by simpa [Nat.beq_eq] using List.find?_some hq
  rw [h1, Nat.testBit_two_pow] at hk
  exact ab_uq_ok (List.mem_of_find?_eq_some hq) (of_decide_eq_true hk).symm
/-- an answer of a type -/
def ab_rt (τ : ab_Y) : ab_R := match τ with
  | .inl (lo, hi, f) => bif decide (lo = hi) && ab_rng lo then .inl (.inl lo) else .inr (.inl (lo, hi, f), [])
  | .inr (some M) => match ab_one M with
    | some k => .inl (.inr (.inr (.inl k)))
    | none => .inr (.inr (some M), [])
  | .inr none => .inr (.inr none, [])
theorem ab_rt_ok {n : Nat} {V : List Value} {τ : ab_Y} {w : Value} (h : ab_ok n w τ) : ab_den n V (ab_rt τ) w := by
  rcases τ with ⟨lo, hi, f⟩ | (_ | M)
  · show ab_den n V (bif decide (lo = hi) && ab_rng lo then .inl (.inl lo) else .inr (.inl (lo, hi, f), [])) w
    cases e : (decide (lo = hi) && ab_rng lo) with
    | false => exact ⟨h, ab_no⟩
    | true =>
      simp only [Bool.and_eq_true, decide_eq_true_eq] at e
      obtain ⟨x, rfl, h1, h2, -⟩ := h
      show ab_cv V (.inl lo) = _
      simp only [ab_cv, e.2, cond_true]
      have hx : x.toInt = lo := by omega
      rw [← hx, Int32.ofInt_toInt]
  · exact ⟨h, ab_no⟩
  · have e : ab_rt (.inr (some M)) = (match ab_one M with
      | some k => .inl (.inr (.inr (.inl k)))
      | none => .inr (.inr (some M), [])) := rfl
    rw [e]
    cases hk : ab_one M with
    | some k =>
      obtain ⟨k', rfl, -, h2⟩ := h
      show some (Value.ref k) = _
      rw [ab_one_ok hk h2]
    | none => exact ⟨h, ab_no⟩
def ab_fd (F : List (ab_V × ab_V × ab_V)) (o i : ab_V) : Option ab_V := (F.find? fun q => ab_veq q.1 o && ab_veq q.2.1 i).map (·.2.2)
theorem ab_fd_in {F : List (ab_V × ab_V × ab_V)} {o i v : ab_V} (hf : ab_fd F o i = some v) : (o, i, v) ∈ F := by
  unfold ab_fd at hf
  obtain ⟨q, hq, rfl⟩ := Option.map_eq_some_iff.mp hf
  have h1 := List.find?_some hq
  simp only [Bool.and_eq_true] at h1
  have := List.mem_of_find?_eq_some hq
  rw [← ab_veq_ok h1.1, ← ab_veq_ok h1.2]
  exact this
theorem ab_fd_ok {V : List Value} {h : ax_H} {F : List (ab_V × ab_V × ab_V)} (hF : ab_ca V h F) {o i v : ab_V} (hf : ab_fd F o i = some v) {k : Nat} {x : Int32} (ho : ab_cv V o = some (.ref k)) (hi : ab_cv V i = some (.int x)) : ∃ w, ab_cv V v = some w ∧ ab_rd h k x.toInt = some w := by
  rcases hF _ (ab_fd_in hf) with ⟨k', x', w, e1, e2, e3, e4⟩ | ⟨x', y', z', e1, -⟩
  · rw [ho] at e1
    rw [hi] at e2
    cases e1
    cases e2
    exact ⟨w, e3, e4⟩
  · rw [ho] at e1
    cases e1
theorem ab_fd_sum {V : List Value} {h : ax_H} {F : List (ab_V × ab_V × ab_V)} (hF : ab_ca V h F) {o i v : ab_V} (hf : (o, i, v) ∈ F) {x : Int32} (ho : ab_cv V o = some (.int x)) : ∃ y z : Int32, ab_cv V i = some (.int y) ∧ ab_cv V v = some (.int z) ∧ z.toInt = x.toInt + y.toInt := by
  rcases hF _ hf with ⟨k', x', w, e1, -⟩ | ⟨x', y', z', e1, e2, e3, e4⟩
  · rw [ho] at e1
    cases e1
  · rw [ho] at e1
    cases e1
    exact ⟨y', z', e2, e3, e4⟩
/-- reading a place -/
def ab_load (S : ab_S) (st : List ab_V) (o i : ab_V) (τ : ab_Y) : ab_S := match ab_fd S.2.2.2.2.1 o i with
  | some v => (S.1, v :: st, S.2.2)
  | none => match ab_put S st (ab_rt τ) with
    | (lv, v :: st', Γ, C, F, r) => (lv, v :: st', Γ, C, (o, i, v) :: F, r)
    | S' => S'
theorem ab_load_ok {E : ab_E} {S : ab_S} {V : List Value} {lv : List (Nat × Value)} {st0 st1 : List Value} {st : List ab_V} {h : ax_H} {n cs ss : Nat} {o i : ab_V} {τ : ab_Y} {k : Nat} {x : Int32} {w : Value} (hg : ab_g E S V lv st0 h n cs ss) (hst : ab_stR V st st1) (ho : ab_cv V o = some (.ref k)) (hi : ab_cv V i = some (.int x)) (hr : ab_rd h k x.toInt = some w) (hw : ab_ok n w τ) :
    ∃ V', ab_ext V V' ∧ ab_g E (ab_load S st o i τ) V' lv (w :: st1) h n cs ss := by
  unfold ab_load
  cases e : ab_fd S.2.2.2.2.1 o i with
  | some v =>
    obtain ⟨g1, g2, g3, g4, g5, g6, g7, g8, g9⟩ := hg
    obtain ⟨w', e1, e2⟩ := ab_fd_ok g5 e ho hi
    have : w' = w := Option.some.inj (e2.symm.trans hr)
    subst this
    exact ⟨V, ab_ext_refl V, g1, ⟨e1, hst⟩, g3, g4, g5, g6, g7, g8, g9⟩
  | none =>
    obtain ⟨V'', hx, hg''⟩ := ab_put_ext hg hst (ab_rt_ok (V := V) hw)
    have ho' := ab_ext_cv hx ho
    have hi' := ab_ext_cv hx hi
    generalize ab_put S st (ab_rt τ) = S' at hg''
    obtain ⟨lv', st', Γ, C, F, r⟩ := S'
    cases st' with
    | nil => exact hg''.2.1.elim
    | cons v st' =>
      obtain ⟨g1, g2, g3, g4, g5, g6, g7, g8, g9⟩ := hg''
      refine ⟨V'', hx, g1, g2, g3, g4, fun q hq => ?_, g6, g7, g8, g9⟩
      rcases List.mem_cons.mp hq with rfl | hq
      · exact Or.inl ⟨k, x, w, ho', hi', g2.1, hr⟩
      · exact g5 q hq
def ab_mo (Γ : List ab_Y) (a : ab_V) : Option Nat := match ab_to Γ a with
  | some (.inr (some M)) => some M
  | _ => none
theorem ab_mo_ok {n : Nat} {V : List Value} {Γ : List ab_Y} (hn : 573 ≤ n) (hΓ : ab_ty n V Γ) {a : ab_V} {M : Nat} (h : ab_mo Γ a = some M) {v : Value} (hv : ab_cv V a = some v) : ∃ k, v = .ref k ∧ k < n ∧ M.testBit (ab_k k) = true := by
  unfold ab_mo at h
  split at h
  · rename_i N hN
    cases h
    exact ab_to_ok hn hΓ hN hv
  · cases h
/-- two cells are not the same -/
def ab_apart (Γ : List ab_Y) (a b : ab_V) : Bool := match a, b with
  | .inr (.inr (.inl j)), .inr (.inr (.inl k)) => !(Nat.beq j k)
  | _, _ => match ab_mo Γ a, ab_mo Γ b with
    | some M, some N => Nat.beq (M &&& N) 0
    | _, _ => false
theorem ab_apart_ok {n : Nat} {V : List Value} {Γ : List ab_Y} (hn : 573 ≤ n) (hΓ : ab_ty n V Γ) {a b : ab_V} (h : ab_apart Γ a b = true) {j k : Nat} (ha : ab_cv V a = some (.ref j)) (hb : ab_cv V b = some (.ref k)) : j ≠ k := by
  unfold ab_apart at h
  split at h
  · cases ha
    cases hb
    intro e
    subst e
    simp at h
  · split at h
    · rename_i M N hM hN
      obtain ⟨j', e1, -, h1⟩ := ab_mo_ok hn hΓ hM ha
      obtain ⟨k', e2, -, h2⟩ := ab_mo_ok hn hΓ hN hb
      cases e1
      cases e2
      intro e
      subst e
      have h3 : (M &&& N).testBit (ab_k j) = true := by rw [Nat.testBit_and, h1, h2]; rfl
      have h4 : M &&& N = 0 := by simpa [Nat.beq_eq] using h
      rw [h4] at h3
      simp at h3
    · cases h
/-- two ints are not the same -/
def ab_dif (Γ : List ab_Y) (C : List (Nat × Nat × Int)) (a b : ab_V) : Bool := match ab_ub Γ C 2 a b, ab_ub Γ C 2 b a with
  | some d, some e => decide (d < 0) || decide (e < 0)
  | _, _ => false
theorem ab_dif_ok {n : Nat} {V : List Value} {Γ : List ab_Y} {C : List (Nat × Nat × Int)} (hΓ : ab_ty n V Γ) (hC : ab_co V C) {a b : ab_V} (h : ab_dif Γ C a b = true) {x y : Int32} (ha : ab_cv V a = some (.int x)) (hb : ab_cv V b = some (.int y)) : x.toInt ≠ y.toInt := by
  unfold ab_dif at h
  split at h
  · rename_i d e hd he
    simp only [Bool.or_eq_true, decide_eq_true_eq] at h
    have h1 := ab_ub_ok hΓ hC 2 a b d hd x y ha hb
    have h2 := ab_ub_ok hΓ hC 2 b a e he y x hb ha
    omega
  · cases h
/-- writing a place -/
def ab_wr (S : ab_S) (st : List ab_V) (o i v : ab_V) : ab_S := (S.1, st, S.2.2.1, S.2.2.2.1, (o, i, v) :: S.2.2.2.2.1.filter (fun q => ab_apart S.2.2.1 q.1 o || ab_dif S.2.2.1 S.2.2.2.1 q.2.1 i), S.2.2.2.2.2.1.filter (fun z => ab_apart S.2.2.1 z.1 o || (ab_is S.2.2.1 v z.2.2 || ab_leq S.2.2.1 S.2.2.2.1 3 z.2.1 i 0)), S.2.2.2.2.2.2)
theorem ab_wr_ok {E : ab_E} {S : ab_S} {V : List Value} {lv : List (Nat × Value)} {st0 st1 : List Value} {st : List ab_V} {h h' : ax_H} {n cs ss : Nat} {o i v : ab_V} {k : Nat} {x : Int32} {w : Value} (hg : ab_g E S V lv st0 h n cs ss) (hst : ab_stR V st st1) (ho : ab_cv V o = some (.ref k)) (hi : ab_cv V i = some (.int x)) (hv : ab_cv V v = some w)
    (hrd : ∀ (k' : Nat) (i' : Int), ab_rd h' k' i' = if k' = k ∧ i' = x.toInt then some w else ab_rd h k' i') (hH : ab_HT h' n) (hmd : ab_md E.2.2.2 (ab_k k) x.toInt = true) : ab_g E (ab_wr S st o i v) V lv st1 h' n cs ss := by
  obtain ⟨g1, g2, g3, g4, g5, g6, g7, ⟨g8, g8', g8''⟩, g9⟩ := hg
  have hn := hH.1
  refine ⟨g1, hst, g3, g4, fun q hq => ?_, fun z hz => ?_, g7, ⟨hH, fun k' hk' i' hm => ?_, g8''⟩, g9⟩
  · rcases List.mem_cons.mp hq with rfl | hq
    · exact Or.inl ⟨k, x, w, ho, hi, hv, by rw [hrd, if_pos ⟨rfl, rfl⟩]⟩
    · obtain ⟨hq, hc⟩ := List.mem_filter.mp hq
      rcases g5 q hq with ⟨k', x', w', e1, e2, e3, e4⟩ | g5'
      case inr => exact Or.inr g5'
      refine Or.inl ⟨k', x', w', e1, e2, e3, ?_⟩
      rw [hrd, if_neg, e4]
      rintro ⟨rfl, hx⟩
      simp only [Bool.or_eq_true] at hc
      rcases hc with hc | hc
      · exact ab_apart_ok hn g3 hc e1 ho rfl
      · exact ab_dif_ok g3 g4 hc e2 hi hx
  · obtain ⟨hz, hc⟩ := List.mem_filter.mp hz
    obtain ⟨k', b, e1, e2, e3⟩ := g6 z hz
    refine ⟨k', b, e1, e2, fun j h0 hj => ?_⟩
    obtain ⟨w', f1, f2⟩ := e3 j h0 hj
    rw [hrd]
    by_cases hkj : k' = k ∧ j = x.toInt
    · rw [if_pos hkj]
      simp only [Bool.or_eq_true] at hc
      rcases hc with hc | hc
      · exact absurd hkj.1 (ab_apart_ok hn g3 hc e1 ho)
      rcases hc with hc | hc
      · exact ⟨w, rfl, ab_is_ok hn g3 hc hv⟩
      · have := ab_leq_ok g3 g4 hc e2 hi
        omega
    · rw [if_neg hkj]
      exact ⟨w', f1, f2⟩
  · rw [hrd, if_neg, g8' k' hk' i' hm]
    rintro ⟨rfl, rfl⟩
    rw [hmd] at hm
    cases hm
/-- what is told beyond kinds stands after a write -/
theorem ab_J_st {h h' : ax_H} {k : Nat} {x : Int} {w : Value} (hrd : ∀ (k' : Nat) (i' : Int), ab_rd h' k' i' = if k' = k ∧ i' = x then some w else ab_rd h k' i') (hx : 0 ≤ x) (hpt : ab_pt (ab_k k) x = false)
    (hpq : ab_pq (ab_k k) x = true → ∃ z : Int32, w = .int z ∧ ∀ u : Nat, ab_rd h 28 4 = some (.ref u) → z.toInt ≤ ab_ri h 28 6 ∨ z.toInt ≤ ab_ri h 28 7 ∨ z.toInt ≤ ab_ri h u (-1)) (hJ : ab_J h) : ab_J h' := by
  refine ab_J_keep (fun k' i' hp => ?_) (fun k' i' hi => ?_) (fun u hu => ?_) hJ
  · rw [hrd, if_neg]
    rintro ⟨rfl, rfl⟩
    rw [hpt] at hp
    cases hp
  · rw [hrd, if_neg]
    rintro ⟨-, rfl⟩
    omega
  · have key : ∀ j : Int, (j = 6 ∨ j = 7) → ab_ri h' 28 j = ab_ri h 28 j ∨ ab_ri h' 28 j ≤ ab_ri h 28 6 ∨ ab_ri h' 28 j ≤ ab_ri h 28 7 ∨ ab_ri h' 28 j ≤ ab_ri h u (-1) := by
      intro j hj
      by_cases e : 28 = k ∧ j = x
      · obtain ⟨e1, e2⟩ := e
        subst e1 e2
        right
        obtain ⟨z, rfl, hz⟩ := hpq (by rcases hj with rfl | rfl <;> rfl)
        have h2 : ab_ri h' 28 j = z.toInt := by
          unfold ab_ri
          rw [hrd, if_pos ⟨rfl, rfl⟩]
        rw [h2]
        exact hz u hu
      · left
        exact ab_ri_of (by rw [hrd, if_neg e])
    have k6 := key 6 (Or.inl rfl)
    have k7 := key 7 (Or.inr rfl)
    constructor <;> omega
