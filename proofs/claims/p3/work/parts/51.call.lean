/-! ===== calls, over abstract states ===== -/
/-- what a call of a method comes to -/
def ab_M (l : Launch) (G : ax_T) (d : Nat) (mi : ax_MI) (as : List Value) (h : ax_H) (n : Nat) (o : ax_O) : Prop := ax_Met l G mi.2.1 mi.2.2.1 mi.2.2.2.1 mi.2.2.2.2.1 d as (ax_hget h) n o.1 (ax_hget o.2.1) o.2.2 mi.2.2.2.2.2.2.1 mi.2.2.2.2.2.2.2.1 ∧ (mi.2.2.2.2.1 = none → o.1 = none)
/-- a contract: method, depth, what is told ahead, what may change, what is told behind -/
abbrev ab_Q : Type := Nat × Nat × ab_S × List (Nat × Int) × List ab_S
def ab_QOk (l : Launch) (G : ax_T) (prog : List ax_MI) (Q : ab_Q) : Prop := ∀ (mi : ax_MI), prog[Q.1]? = some mi → ∀ (d : Nat), Q.2.1 ≤ d → ∀ (V as : List Value) (h : ax_H) (n : Nat), (lg_sl as).length ≤ mi.2.2.2.1 → ab_g (V, h, n, Q.2.2.2.1) Q.2.2.1 V (lv_args 0 as) [] h n 0 0 →
  ∃ o, ab_M l G d mi as h n o ∧ ∃ P ∈ Q.2.2.2.2, ∃ V' cs ss, ab_g (V, h, n, Q.2.2.2.1) P V' [] o.1.toList o.2.1 o.2.2 cs ss
theorem ab_stR_iff {V : List Value} : ∀ {L : List ab_V} {st : List Value}, ab_stR V L st ↔ L.map (ab_cv V) = st.map some
  | [], [] => ⟨fun _ => rfl, fun _ => trivial⟩
  | a :: L, v :: st => by
    simp only [ab_stR, List.map_cons, List.cons.injEq]
    rw [ab_stR_iff (L := L) (st := st)]
  | [], _ :: _ => ⟨fun h => h.elim, fun h => by simp at h⟩
  | _ :: _, [] => ⟨fun h => h.elim, fun h => by simp at h⟩
theorem ab_stR_len {V : List Value} {L : List ab_V} {st : List Value} (h : ab_stR V L st) : L.length = st.length := by
  have := congrArg List.length (ab_stR_iff.mp h)
  simpa using this
def ab_args (Γ : List ab_Y) : Nat → List ab_V → List (Nat × ab_V)
  | _, [] => []
  | i, a :: vs => (i, a) :: ab_args Γ (i + ab_ct Γ a) vs
theorem ab_ct12 (Γ : List ab_Y) (a : ab_V) : ab_ct Γ a = 1 ∨ ab_ct Γ a = 2 := by
  unfold ab_ct
  split
  · split
    · exact Or.inr rfl
    · exact Or.inl rfl
  · exact Or.inl rfl
theorem ab_args_ok {n : Nat} {V : List Value} {Γ : List ab_Y} (hΓ : ab_ty n V Γ) : ∀ {vs : List ab_V} {as : List Value} (i : Nat), ab_stR V vs as → ab_lvR V (ab_args Γ i vs) (lv_args i as)
  | [], [], _, _ => fun k a hk => by cases hk
  | a :: vs, v :: as, i, h => by
    intro k b hk
    have hc := ab_ct_ok hΓ h.1
    have hi : (if v.category = 2 then i + 2 else i + 1) = i + ab_ct Γ a := by
      rw [hc]
      rcases ab_ct12 Γ a with e | e <;> rw [e] <;> rfl
    have ih := ab_args_ok hΓ (i + ab_ct Γ a) h.2
    unfold ab_args ab_lk at hk
    unfold lv_args ax_look
    rw [hi]
    rw [List.find?_cons] at hk ⊢
    rw [show ((i, v).1 == k) = Nat.beq i k from ab_nb i k]
    cases e : Nat.beq i k with
    | true =>
      rw [show Nat.beq (i, a).1 k = true from e] at hk
      cases hk
      exact ⟨v, rfl, h.1⟩
    | false =>
      rw [show Nat.beq (i, a).1 k = false from e] at hk
      exact ih k b hk
  | [], _ :: _, _, h => h.elim
  | _ :: _, [], _, h => h.elim
theorem ab_sl_sum : ∀ (as : List Value), (lg_sl as).length = ax_sum as
  | [] => rfl
  | v :: as => by
    have ih := ab_sl_sum as
    simp only [lg_sl, ax_sum, List.flatMap_cons, List.length_append, List.map_cons, List.sum_cons] at ih ⊢
    rw [ih]
    congr 1
    cases v <;> rfl
def ab_pop (k : Nat) (st : List ab_V) : Option (List ab_V × List ab_V) := bif Nat.ble k st.length then some ((st.take k).reverse, st.drop k) else none
theorem ab_pop_ok {V : List Value} {k : Nat} {L vs rest : List ab_V} {st : List Value} (h : ab_stR V L st) (hp : ab_pop k L = some (vs, rest)) : ∃ as rst, ax_pop k st = some (as, rst) ∧ ab_stR V vs as ∧ ab_stR V rest rst := by
  unfold ab_pop at hp
  obtain ⟨h1, h2⟩ := ab_bif hp
  cases h2
  refine ⟨(st.take k).reverse, st.drop k, ?_, ?_, ?_⟩
  · unfold ax_pop
    rw [← ab_stR_len h, h1]
    rfl
  · rw [ab_stR_iff, List.map_reverse, List.map_reverse, List.map_take, List.map_take, ab_stR_iff.mp h]
  · rw [ab_stR_iff, List.map_drop, List.map_drop, ab_stR_iff.mp h]
/-- which method, its arguments, the rest of the stack -/
def ab_inv (prog : List ax_MI) (i : Instr) (pe : ax_PE) (S : ab_S) : Option (Nat × ax_MI × List ab_V × List ab_V) := match i with
  | .invokestatic _ => bif Nat.beq pe.1 9 then none else match prog[pe.2.1]? with
    | some mi => (match ab_pop mi.2.2.2.2.2.1 S.2.1 with
      | some (vs, rest) => bif Nat.ble (ab_sum S.2.2.1 rest) 8 then some (pe.2.1, mi, vs, rest) else none
      | none => none)
    | none => none
  | .invokevirtual _ => match prog[pe.2.1]? with
    | some mi => (match ab_pop mi.2.2.2.2.2.1 S.2.1 with
      | some (vs, a :: rest) => (match ab_mo S.2.2.1 a with
        | some M => (match ab_ftj M 0 with
          | some τ => bif ab_fck M pe.2.2.1 0 τ && Nat.ble (ab_sum S.2.2.1 rest) 8 then some (pe.2.1, mi, a :: vs, rest) else none
          | none => none)
        | none => none)
      | _ => none)
    | none => none
  | _ => none
section CAL
variable {E : ab_E} {S : ab_S} {V : List Value} {lv : List (Nat × Value)} {st : List Value} {h : ax_H} {n cs ss : Nat} {pe : ax_PE} {prog : List ax_MI} {l : Launch} {G : ax_T}
theorem ab_inv_ok (hg : ab_g E S V lv st h n cs ss) {i : Instr} {j : Nat} {mi : ax_MI} {vs rest : List ab_V} (hi : ab_inv prog i pe S = some (j, mi, vs, rest)) : prog[j]? = some mi ∧ ∃ as rst, ax_inv prog i pe st h = some (mi, as, rst) ∧ ab_stR V vs as ∧ ab_stR V rest rst := by
  obtain ⟨g1, g2, g3, g4, g5, g6, g7, g8, g9⟩ := hg
  cases i with
  | invokestatic idx =>
    simp only [ab_inv] at hi
    cases e0 : Nat.beq pe.1 9 with
    | true => rw [e0] at hi; cases hi
    | false =>
      rw [e0] at hi
      simp only [cond_false] at hi
      split at hi
      · rename_i mi' hmi
        split at hi
        · rename_i vs' rest' hp
          obtain ⟨h1, h2⟩ := ab_bif hi
          cases h2
          obtain ⟨as, rst, f1, f2, f3⟩ := ab_pop_ok g2 hp
          refine ⟨hmi, as, rst, ?_, f2, f3⟩
          have e1 : (pe.1 == 9) = false := by rw [ab_nb]; exact e0
          simp only [ax_inv, e1, cond_false, hmi, f1]
          rw [ab_sum_ok g3 f3, h1]
          rfl
        · cases hi
      · cases hi
  | invokevirtual idx =>
    simp only [ab_inv] at hi
    split at hi
    · rename_i mi' hmi
      split at hi
      · rename_i vs' a rest' hp
        split at hi
        · rename_i M hM
          split at hi
          · rename_i τ hτ
            obtain ⟨h1, h2⟩ := ab_bif hi
            cases h2
            simp only [Bool.and_eq_true] at h1
            obtain ⟨as, rst, f1, f2, f3⟩ := ab_pop_ok g2 hp
            match rst, f3 with
            | [], f3 => exact f3.elim
            | v :: rst, f3 =>
              obtain ⟨k, rfl, hk, hMk⟩ := ab_mo_ok g8.1.1 g3 hM f3.1
              obtain ⟨fs, w, q1, -⟩ := ab_fck_ok g8.1 hMk hk h1.1
              refine ⟨hmi, .ref k :: as, rst, ?_, ⟨f3.1, f2⟩, f3.2⟩
              simp only [ax_inv, hmi, f1, q1, beq_self_eq_true]
              rw [ab_sum_ok g3 f3.2, h1.2]
              rfl
          · cases hi
        · cases hi
      · cases hi
    · cases hi
  | _ => cases hi
/-- may a place of cells of some kinds change -/
def ab_hit1 (M : Nat) (i : ab_V) (q : Nat × Int) : Bool := !(Nat.beq (q.1 &&& M) 0) && (bif decide (q.2 = -2) then !(ab_veq i (.inl (-1))) else match i with
  | .inl c => decide (c = q.2)
  | _ => true)
def ab_hit (md : List (Nat × Int)) (M : Nat) (i : ab_V) : Bool := md.any (ab_hit1 M i)
theorem ab_hit1_ok {M κ : Nat} {i : ab_V} {x : Int32} {q : Nat × Int} (hh : ab_hit1 M i q = false) (hM : M.testBit κ = true) (hi : ab_cv V i = some (.int x)) (hc1 : Nat.testBit q.1 κ = true) (hc2 : q.2 = x.toInt ∨ q.2 = -2 ∧ 0 ≤ x.toInt) : False := by
  have h0 : (q.1 &&& M).testBit κ = true := by rw [Nat.testBit_and, hc1, hM]; rfl
  have h1 : Nat.beq (q.1 &&& M) 0 = false := by
    rw [Bool.eq_false_iff]
    intro he
    have he' : q.1 &&& M = 0 := by simpa [Nat.beq_eq] using he
    rw [he'] at h0
    simp at h0
  unfold ab_hit1 at hh
  rw [h1] at hh
  simp only [Bool.not_false, Bool.true_and] at hh
  by_cases e : q.2 = -2
  · rw [decide_eq_true e] at hh
    simp only [cond_true, Bool.not_eq_false'] at hh
    have hv' := ab_veq_ok hh
    rw [hv'] at hi
    have hx : x = Int32.ofInt (-1) := by
      have h3 : some (Value.int (Int32.ofInt (-1))) = some (.int x) := hi
      cases h3; rfl
    have h4 : x.toInt = -1 := by rw [hx]; rfl
    omega
  · rw [decide_eq_false e] at hh
    simp only [cond_false] at hh
    rcases i with c | i
    · simp only [ab_cv] at hi
      cases er : ab_rng c with
      | false => rw [er] at hi; cases hi
      | true =>
        rw [er] at hi
        cases hi
        rw [ab_rng_ok er] at hc2
        have h5 : ¬ c = q.2 := of_decide_eq_false hh
        omega
    · cases hh
theorem ab_hit_ok {md : List (Nat × Int)} {M κ : Nat} {i : ab_V} {x : Int32} (hh : ab_hit md M i = false) (hM : M.testBit κ = true) (hi : ab_cv V i = some (.int x)) : ab_md md κ x.toInt = false := by
  rw [Bool.eq_false_iff]
  intro hm
  obtain ⟨q, hq, hc⟩ := List.any_eq_true.mp hm
  simp only [Bool.and_eq_true, Bool.or_eq_true, decide_eq_true_eq] at hc
  refine ab_hit1_ok (q := q) (M := M) ?_ hM hi hc.1 hc.2
  rw [Bool.eq_false_iff]
  intro hx
  exact Bool.eq_false_iff.mp hh (List.any_eq_true.mpr ⟨q, hq, hx⟩)
def ab_keepF (md : List (Nat × Int)) (Γ : List ab_Y) (F : List (ab_V × ab_V × ab_V)) : List (ab_V × ab_V × ab_V) := F.filter fun q => match ab_mo Γ q.1 with
  | some M => !(ab_hit md M q.2.1)
  | none => (ab_iv Γ q.1).isSome
def ab_keepZ (md : List (Nat × Int)) (Γ : List ab_Y) (Z : List (ab_V × ab_V × ab_Y)) : List (ab_V × ab_V × ab_Y) := Z.filter fun z => match ab_mo Γ z.1 with
  | some M => md.all fun q => Nat.beq (q.1 &&& M) 0
  | none => false
theorem ab_keepF_ok {md : List (Nat × Int)} {Γ : List ab_Y} {F : List (ab_V × ab_V × ab_V)} {h' : ax_H} (hn : 573 ≤ n) (hΓ : ab_ty n V Γ) (hF : ab_ca V h F) (hfr : ab_fr md n h h') : ab_ca V h' (ab_keepF md Γ F) := fun q hq => by
  obtain ⟨hq1, hq2⟩ := List.mem_filter.mp hq
  rcases hF q hq1 with ⟨k, x, w, e1, e2, e3, e4⟩ | hs
  · refine Or.inl ⟨k, x, w, e1, e2, e3, ?_⟩
    split at hq2
    · rename_i M hM
      obtain ⟨k', e5, hk, hMk⟩ := ab_mo_ok hn hΓ hM e1
      cases e5
      rw [hfr k hk _ (ab_hit_ok (by simpa using hq2) hMk e2), e4]
    · cases e : ab_iv Γ q.1 with
      | none => rw [e] at hq2; cases hq2
      | some p =>
        obtain ⟨x, e5, -⟩ := ab_iv_ok hΓ e e1
        cases e5
  · exact Or.inr hs
theorem ab_keepZ_ok {md : List (Nat × Int)} {Γ : List ab_Y} {Z : List (ab_V × ab_V × ab_Y)} {h' : ax_H} {n' : Nat} (hn : 573 ≤ n) (hnn : n ≤ n') (hΓ : ab_ty n V Γ) (hZ : ab_sg n V h Z) (hfr : ab_fr md n h h') : ab_sg n' V h' (ab_keepZ md Γ Z) := fun z hz => by
  obtain ⟨hz1, hz2⟩ := List.mem_filter.mp hz
  obtain ⟨k, b, e1, e2, e3⟩ := hZ z hz1
  refine ⟨k, b, e1, e2, fun i h0 h1 => ?_⟩
  obtain ⟨w, f1, f2⟩ := e3 i h0 h1
  split at hz2
  · rename_i M hM
    obtain ⟨k', e5, hk, hMk⟩ := ab_mo_ok hn hΓ hM e1
    cases e5
    refine ⟨w, ?_, ab_ok_mono hnn f2⟩
    rw [hfr k hk i, f1]
    rw [Bool.eq_false_iff]
    intro hm
    obtain ⟨q, hq, hc⟩ := List.any_eq_true.mp hm
    simp only [Bool.and_eq_true] at hc
    have h2 := List.all_eq_true.mp hz2 q hq
    have h3 : q.1 &&& M = 0 := by simpa [Nat.beq_eq] using h2
    have h4 : (q.1 &&& M).testBit (ab_k k) = true := by rw [Nat.testBit_and, hc.1, hMk]; rfl
    rw [h3] at h4
    simp at h4
  · cases hz2
def ab_smd (md' md : List (Nat × Int)) : Bool := md'.all fun q => md.any fun r => decide (q.2 = r.2) && Nat.beq (q.1 &&& r.1) q.1
theorem ab_smd_ok {md' md : List (Nat × Int)} (hs : ab_smd md' md = true) {κ : Nat} {i : Int} (hm : ab_md md κ i = false) : ab_md md' κ i = false := by
  rw [Bool.eq_false_iff] at hm ⊢
  intro h1
  apply hm
  obtain ⟨q, hq, hc⟩ := List.any_eq_true.mp h1
  obtain ⟨r, hr, hd⟩ := List.any_eq_true.mp (List.all_eq_true.mp hs q hq)
  simp only [Bool.and_eq_true, decide_eq_true_eq, Nat.beq_eq] at hc hd
  refine List.any_eq_true.mpr ⟨r, hr, ?_⟩
  simp only [Bool.and_eq_true]
  have h2 : (q.1 &&& r.1).testBit κ = true := by rw [hd.2]; exact hc.1
  rw [Nat.testBit_and, Bool.and_eq_true] at h2
  exact ⟨h2.2, by rw [← hd.1]; exact hc.2⟩
/-- bounds of what there was, by types told behind -/
def ab_rf : List ab_V → List ab_Y → List ab_Y → Option (List ab_Y)
  | a :: σ, τ :: Δ, Γ => (match τ with
    | .inl (lo, hi, f) => (match ab_lim Γ a lo hi with
      | some Γ' => ab_rf σ Δ (bif Nat.beq f 3 then ab_f3 Γ' a else Γ')
      | none => none)
    | .inr _ => ab_rf σ Δ Γ)
  | _, _, Γ => some Γ
theorem ab_rf_ok : ∀ (σ : List ab_V) (Δ Γ : List ab_Y), ab_ty n V Γ → (∀ (u : Nat) (a : ab_V) (τ : ab_Y), σ[u]? = some a → Δ[u]? = some τ → ∃ w, ab_cv V a = some w ∧ ab_ok n w τ) → ∃ Γ', ab_rf σ Δ Γ = some Γ' ∧ ab_ty n V Γ'
  | [], _, Γ, hΓ, _ => ⟨Γ, by unfold ab_rf; rfl, hΓ⟩
  | a :: σ, [], Γ, hΓ, _ => ⟨Γ, by unfold ab_rf; rfl, hΓ⟩
  | a :: σ, τ :: Δ, Γ, hΓ, hh => by
    have ht : ∀ (u : Nat) (a : ab_V) (τ : ab_Y), σ[u]? = some a → Δ[u]? = some τ → ∃ w, ab_cv V a = some w ∧ ab_ok n w τ := fun u b ρ hb hρ => hh (u + 1) b ρ (by simpa using hb) (by simpa using hρ)
    obtain ⟨w, hw, hok⟩ := hh 0 a τ rfl rfl
    rcases τ with ⟨lo, hi, f⟩ | τ
    · obtain ⟨x, rfl, h1, h2, h3⟩ := hok
      obtain ⟨Γ', e1, e2⟩ := ab_lim_ok hΓ hw h1 h2
      simp only [ab_rf, e1]
      cases ef : Nat.beq f 3 with
      | false => exact ab_rf_ok σ Δ Γ' e2 ht
      | true =>
        have : f = 3 := by simpa [Nat.beq_eq] using ef
        subst this
        exact ab_rf_ok σ Δ _ (ab_f3_ok e2 hw h3) ht
    · simp only [ab_rf]
      exact ab_rf_ok σ Δ Γ hΓ ht
end CAL
