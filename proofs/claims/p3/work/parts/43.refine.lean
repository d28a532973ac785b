/-! ===== types of values; what a comparison tells ===== -/
def ab_let : List Int := [73, 86, 88, 76, 67, 68, 77, 105, 118, 120, 108, 99, 100, 109]
def ab_fge (a b : Int) (f g : Nat) : Bool := Nat.beq g 0 || (Nat.beq g f || match g with
  | 1 => decide (b ≤ 3583)
  | 2 => decide (b ≤ 13)
  | 3 => decide (a = b) && ab_let.contains a
  | _ => true)
theorem ab_fge_ok {a b : Int} {f g : Nat} (h : ab_fge a b f g = true) {x : Int} (h1 : a ≤ x) (h2 : x ≤ b) (hf : ab_fl f x) : ab_fl g x := by
  simp only [ab_fge, Bool.or_eq_true, Nat.beq_eq] at h
  rcases h with rfl | rfl | h
  · exact trivial
  · exact hf
  · match g, h with
    | 0, _ => exact trivial
    | 1, h => have := of_decide_eq_true h; intro _; omega
    | 2, h => have := of_decide_eq_true h; intro _; omega
    | 3, h =>
      simp only [Bool.and_eq_true, decide_eq_true_eq] at h
      have hx : x = a := by omega
      rw [hx]
      exact List.contains_iff_mem.mp h.2
    | g + 4, _ => exact trivial
def ab_le (τ σ : ab_Y) : Bool := match τ, σ with
  | .inl (a, b, f), .inl (c, d, g) => decide (c ≤ a) && (decide (b ≤ d) && ab_fge a b f g)
  | .inr none, .inr none => true
  | .inr (some M), .inr (some N) => Nat.beq (M &&& N) M
  | _, _ => false
theorem ab_le_ok {n : Nat} {v : Value} {τ σ : ab_Y} (h : ab_le τ σ = true) (hv : ab_ok n v τ) : ab_ok n v σ := by
  rcases τ with ⟨a, b, f⟩ | (_ | M) <;> rcases σ with ⟨c, d, g⟩ | (_ | N)
  · simp only [ab_le, Bool.and_eq_true, decide_eq_true_eq] at h
    obtain ⟨x, e, h1, h2, h3⟩ := hv
    exact ⟨x, e, by omega, by omega, ab_fge_ok h.2.2 h1 h2 h3⟩
  · cases h
  · cases h
  · cases h
  · exact hv
  · cases h
  · cases h
  · cases h
  · obtain ⟨k, e, h1, h2⟩ := hv
    have hm : M &&& N = M := by simpa [ab_le, Nat.beq_eq] using h
    refine ⟨k, e, h1, ?_⟩
    rw [← hm, Nat.testBit_and, Bool.and_eq_true] at h2
    exact h2.2
/-- the type of a value -/
def ab_to (Γ : List ab_Y) : ab_V → Option ab_Y
  | .inl c => bif ab_rng c then some (.inl (c, c, 0)) else none
  | .inr (.inl u) => Γ[u]?
  | .inr (.inr (.inl k)) => bif Nat.blt k 573 then some (.inr (some (2 ^ ab_k k))) else none
  | .inr (.inr (.inr _)) => none
theorem ab_to_ok {n : Nat} {V : List Value} {Γ : List ab_Y} (hn : 573 ≤ n) (hΓ : ab_ty n V Γ) {a : ab_V} {τ : ab_Y} (h : ab_to Γ a = some τ) {v : Value} (hv : ab_cv V a = some v) : ab_ok n v τ := by
  rcases a with c | (u | (k | j))
  · simp only [ab_to, ab_cv] at h hv
    cases e : ab_rng c with
    | false => rw [e] at h; cases h
    | true =>
      rw [e] at h hv
      cases h
      cases hv
      exact ⟨_, rfl, by rw [ab_rng_ok e]; exact ⟨Int.le_refl _, Int.le_refl _, trivial⟩⟩
  · obtain ⟨w, h1, h2⟩ := hΓ.2 u τ h
    have : w = v := Option.some.inj (h1.symm.trans hv)
    exact this ▸ h2
  · simp only [ab_to] at h
    cases e : Nat.blt k 573 with
    | false => rw [e] at h; cases h
    | true =>
      rw [e] at h
      cases h
      cases hv
      have : k < 573 := by simpa [Nat.blt_eq] using e
      exact ⟨k, rfl, by omega, by simp⟩
  · cases h
def ab_is (Γ : List ab_Y) (a : ab_V) (σ : ab_Y) : Bool := match ab_to Γ a with
  | some τ => ab_le τ σ
  | none => false
theorem ab_is_ok {n : Nat} {V : List Value} {Γ : List ab_Y} (hn : 573 ≤ n) (hΓ : ab_ty n V Γ) {a : ab_V} {σ : ab_Y} (h : ab_is Γ a σ = true) {v : Value} (hv : ab_cv V a = some v) : ab_ok n v σ := by
  unfold ab_is at h
  split at h
  · rename_i τ hτ
    exact ab_le_ok h (ab_to_ok hn hΓ hτ hv)
  · cases h
/-- a value is between bounds -/
def ab_lim (Γ : List ab_Y) (a : ab_V) (lo hi : Int) : Option (List ab_Y) := match a with
  | .inl c => bif decide (lo ≤ c) && decide (c ≤ hi) then some Γ else none
  | .inr (.inl u) => match Γ[u]? with
    | some (.inl (l, h, f)) => bif decide (max l lo ≤ min h hi) then some (Γ.set u (.inl (max l lo, min h hi, f))) else none
    | _ => some Γ
  | _ => some Γ
theorem ab_lim_ok {n : Nat} {V : List Value} {Γ : List ab_Y} (hΓ : ab_ty n V Γ) {a : ab_V} {x : Int32} (ha : ab_cv V a = some (.int x)) {lo hi : Int} (h1 : lo ≤ x.toInt) (h2 : x.toInt ≤ hi) : ∃ Γ', ab_lim Γ a lo hi = some Γ' ∧ ab_ty n V Γ' := by
  rcases a with c | (u | (k | j))
  · simp only [ab_cv] at ha
    cases e : ab_rng c with
    | false => rw [e] at ha; cases ha
    | true =>
      rw [e] at ha
      cases ha
      rw [ab_rng_ok e] at h1 h2
      refine ⟨Γ, ?_, hΓ⟩
      simp only [ab_lim, decide_eq_true h1, decide_eq_true h2, Bool.and_self, cond_true]
  · simp only [ab_lim]
    split
    · rename_i l h f hu
      obtain ⟨w, e1, y, e2, e3, e4, e5⟩ := hΓ.2 u _ hu
      have hw : w = .int x := Option.some.inj (e1.symm.trans ha)
      have hy : y = x := by rw [e2] at hw; cases hw; rfl
      subst hy
      have hd : max l lo ≤ min h hi := by omega
      refine ⟨Γ.set u (.inl (max l lo, min h hi, f)), by simp only [decide_eq_true hd, cond_true], by simp [hΓ.1], fun r τ hr => ?_⟩
      by_cases hru : r = u
      · subst hru
        have hlt : r < Γ.length := (List.getElem?_eq_some_iff.mp hu).1
        rw [List.getElem?_set_self hlt] at hr
        cases hr
        exact ⟨w, e1, y, e2, by omega, by omega, e5⟩
      · rw [List.getElem?_set_ne (fun q => hru q.symm)] at hr
        exact hΓ.2 r τ hr
    · exact ⟨Γ, rfl, hΓ⟩
  · exact ⟨Γ, rfl, hΓ⟩
  · exact ⟨Γ, rfl, hΓ⟩
def ab_lm2 (Γ : List ab_Y) (a : ab_V) (lo hi : Int) (b : ab_V) (lo' hi' : Int) : Option (List ab_Y) := match ab_lim Γ a lo hi with
  | some Γ1 => ab_lim Γ1 b lo' hi'
  | none => none
theorem ab_lm2_ok {n : Nat} {V : List Value} {Γ : List ab_Y} (hΓ : ab_ty n V Γ) {a b : ab_V} {x y : Int32} (ha : ab_cv V a = some (.int x)) (hb : ab_cv V b = some (.int y)) {lo hi lo' hi' : Int} (h1 : lo ≤ x.toInt) (h2 : x.toInt ≤ hi) (h3 : lo' ≤ y.toInt) (h4 : y.toInt ≤ hi') :
    ∃ Γ', ab_lm2 Γ a lo hi b lo' hi' = some Γ' ∧ ab_ty n V Γ' := by
  obtain ⟨Γ1, e1, t1⟩ := ab_lim_ok hΓ ha h1 h2
  obtain ⟨Γ2, e2, t2⟩ := ab_lim_ok t1 hb h3 h4
  exact ⟨Γ2, by simp only [ab_lm2, e1, e2], t2⟩
/-- a - b is c at most, of symbols -/
def ab_dd (a b : ab_V) (c : Int) : List (Nat × Nat × Int) := match a, b with
  | .inr (.inl u), .inr (.inl w) => [(u, w, c)]
  | _, _ => []
theorem ab_dd_ok {V : List Value} {a b : ab_V} {x y : Int32} {c : Int} (ha : ab_cv V a = some (.int x)) (hb : ab_cv V b = some (.int y)) (h : x.toInt - y.toInt ≤ c) : ab_co V (ab_dd a b c) := by
  unfold ab_dd
  split
  · intro q hq
    rcases List.mem_cons.mp hq with rfl | hq
    · exact ⟨x, y, ha, hb, h⟩
    · cases hq
  · exact ab_no
def ab_ng : ClassFile.Cond → ClassFile.Cond
  | .eq => .ne | .ne => .eq | .lt => .ge | .ge => .lt | .gt => .le | .le => .gt
theorem ab_ng_ok {c : ClassFile.Cond} {x y : Int32} (h : ¬ ax_holds c x y) : ax_holds (ab_ng c) x y := by
  cases c with
  | eq => exact h
  | ne => exact Classical.byContradiction h
  | lt => exact Int32.not_lt.mp h
  | ge => exact Int32.not_le.mp h
  | gt => exact Int32.not_lt.mp h
  | le => exact Int32.not_le.mp h
def ab_fg (Γ : List ab_Y) : ab_V → Nat
  | .inr (.inl u) => match Γ[u]? with
    | some (.inl (_, _, f)) => f
    | _ => 0
  | _ => 0
theorem ab_fg_ok {n : Nat} {V : List Value} {Γ : List ab_Y} (hΓ : ab_ty n V Γ) {a : ab_V} {x : Int32} (ha : ab_cv V a = some (.int x)) : ab_fl (ab_fg Γ a) x.toInt := by
  rcases a with c | (u | (k | j))
  · exact trivial
  · simp only [ab_fg]
    split
    · rename_i lo hi f hu
      obtain ⟨w, h1, y, rfl, -, -, h2⟩ := hΓ.2 u _ hu
      have := h1.symm.trans ha
      cases this
      exact h2
    · exact trivial
  · exact trivial
  · exact trivial
/-- a value is a sign's letter -/
def ab_f3 (Γ : List ab_Y) (a : ab_V) : List ab_Y := match a with
  | .inr (.inl u) => match Γ[u]? with
    | some (.inl (l, h, _)) => Γ.set u (.inl (l, h, 3))
    | _ => Γ
  | _ => Γ
theorem ab_f3_ok {n : Nat} {V : List Value} {Γ : List ab_Y} (hΓ : ab_ty n V Γ) {a : ab_V} {x : Int32} (ha : ab_cv V a = some (.int x)) (hx : ab_fl 3 x.toInt) : ab_ty n V (ab_f3 Γ a) := by
  rcases a with c | (u | (k | j))
  · exact hΓ
  · simp only [ab_f3]
    split
    · rename_i l h f hu
      obtain ⟨w, e1, y, e2, e3, e4, e5⟩ := hΓ.2 u _ hu
      have hw : w = .int x := Option.some.inj (e1.symm.trans ha)
      have hy : y = x := by rw [e2] at hw; cases hw; rfl
      subst hy
      refine ⟨by simp [hΓ.1], fun r τ hr => ?_⟩
      by_cases hru : r = u
      · subst hru
        have hlt : r < Γ.length := (List.getElem?_eq_some_iff.mp hu).1
        rw [List.getElem?_set_self hlt] at hr
        cases hr
        exact ⟨w, e1, y, e2, e3, e4, hx⟩
      · rw [List.getElem?_set_ne (fun q => hru q.symm)] at hr
        exact hΓ.2 r τ hr
    · exact hΓ
  · exact hΓ
  · exact hΓ
/-- no new difference goes against what is known -/
def ab_ctr (Γ : List ab_Y) (C D : List (Nat × Nat × Int)) : Bool := D.all fun e => match ab_ub Γ C 3 (.inr (.inl e.2.1)) (.inr (.inl e.1)) with
  | some d => decide (0 ≤ d + e.2.2)
  | none => true
theorem ab_ctr_ok {n : Nat} {V : List Value} {Γ : List ab_Y} {C D : List (Nat × Nat × Int)} (hΓ : ab_ty n V Γ) (hC : ab_co V C) (hD : ab_co V D) : ab_ctr Γ C D = true := by
  refine List.all_eq_true.mpr fun e he => ?_
  obtain ⟨x, y, h1, h2, h3⟩ := hD e he
  split
  · rename_i d hd
    have := ab_ub_ok hΓ hC 3 _ _ d hd y x h2 h1
    exact decide_eq_true (by omega)
  · rfl
/-- what bounds of one symbol say of its neighbours -/
def ab_pr1 (z : Nat) (o : Option (List ab_Y)) (e : Nat × Nat × Int) : Option (List ab_Y) := match (match o with
    | none => none
    | some Γ => bif Nat.beq e.2.1 z then (match ab_iv Γ (.inr (.inl z)) with
        | some p => ab_lim Γ (.inr (.inl e.1)) (-2147483648) (p.2 + e.2.2)
        | none => some Γ) else some Γ) with
  | none => none
  | some Γ => bif Nat.beq e.1 z then (match ab_iv Γ (.inr (.inl z)) with
      | some p => ab_lim Γ (.inr (.inl e.2.1)) (p.1 - e.2.2) 2147483647
      | none => some Γ) else some Γ
def ab_pr (C : List (Nat × Nat × Int)) (a : ab_V) (Γ : List ab_Y) : Option (List ab_Y) := match a with
  | .inr (.inl z) => C.foldl (ab_pr1 z) (some Γ)
  | _ => some Γ
theorem ab_pr_ok {n : Nat} {V : List Value} {C : List (Nat × Nat × Int)} (hC : ab_co V C) (a : ab_V) {Γ : List ab_Y} (hΓ : ab_ty n V Γ) : ∃ Γ', ab_pr C a Γ = some Γ' ∧ ab_ty n V Γ' := by
  rcases a with c | (z | (k | j))
  · exact ⟨Γ, rfl, hΓ⟩
  · show ∃ Γ', C.foldl (ab_pr1 z) (some Γ) = some Γ' ∧ _
    have hone : ∀ (e : Nat × Nat × Int) (Γ : List ab_Y), (∃ x y : Int32, V[e.1]? = some (.int x) ∧ V[e.2.1]? = some (.int y) ∧ x.toInt - y.toInt ≤ e.2.2) → ab_ty n V Γ → ∃ Γ', ab_pr1 z (some Γ) e = some Γ' ∧ ab_ty n V Γ' := by
      intro e Γ he hΓ
      obtain ⟨x, y, h1, h2, h3⟩ := he
      have hx1 := x.le_toInt
      have hx2 := x.toInt_lt
      have hy1 := y.le_toInt
      have hy2 := y.toInt_lt
      have key : ∃ Γ1, (bif Nat.beq e.2.1 z then (match ab_iv Γ (.inr (.inl z)) with
          | some p => ab_lim Γ (.inr (.inl e.1)) (-2147483648) (p.2 + e.2.2)
          | none => some Γ) else some Γ) = some Γ1 ∧ ab_ty n V Γ1 := by
        cases ez : Nat.beq e.2.1 z with
        | false => exact ⟨Γ, rfl, hΓ⟩
        | true =>
          have ez' : e.2.1 = z := by simpa [Nat.beq_eq] using ez
          simp only [cond_true]
          split
          · rename_i p hp
            obtain ⟨y', e1, -, e2⟩ := ab_iv_ok hΓ hp (show ab_cv V (.inr (.inl z)) = some (.int y) by rw [← ez']; exact h2)
            cases e1
            exact ab_lim_ok hΓ (show ab_cv V (.inr (.inl e.1)) = some (.int x) from h1) (by omega) (by omega)
          · exact ⟨Γ, rfl, hΓ⟩
      obtain ⟨Γ1, k1, k2⟩ := key
      unfold ab_pr1
      simp only [k1]
      cases ez : Nat.beq e.1 z with
      | false => exact ⟨Γ1, rfl, k2⟩
      | true =>
        have ez' : e.1 = z := by simpa [Nat.beq_eq] using ez
        simp only [cond_true]
        split
        · rename_i p hp
          obtain ⟨x', e1, e2, -⟩ := ab_iv_ok k2 hp (show ab_cv V (.inr (.inl z)) = some (.int x) by rw [← ez']; exact h1)
          cases e1
          exact ab_lim_ok k2 (show ab_cv V (.inr (.inl e.2.1)) = some (.int y) from h2) (by omega) (by omega)
        · exact ⟨Γ1, rfl, k2⟩
    have : ∀ (L : List (Nat × Nat × Int)) (Γ : List ab_Y), ab_co V L → ab_ty n V Γ → ∃ Γ', L.foldl (ab_pr1 z) (some Γ) = some Γ' ∧ ab_ty n V Γ' := by
      intro L
      induction L with
      | nil => intro Γ _ h; exact ⟨Γ, rfl, h⟩
      | cons e L ih =>
        intro Γ hL h
        obtain ⟨Γ1, k1, k2⟩ := hone e Γ (hL e List.mem_cons_self) h
        rw [List.foldl_cons, k1]
        exact ih Γ1 (fun q hq => hL q (List.mem_cons_of_mem _ hq)) k2
    exact this C Γ hC hΓ
  · exact ⟨Γ, rfl, hΓ⟩
  · exact ⟨Γ, rfl, hΓ⟩
/-- bounds, then new differences, then what follows -/
def ab_fin (C : List (Nat × Nat × Int)) (a b : ab_V) (o : Option (List ab_Y)) (D : List ab_Y → List (Nat × Nat × Int)) : Option (List ab_Y × List (Nat × Nat × Int)) := match o with
  | none => none
  | some Γ => bif ab_ctr Γ C (D Γ) then (match ab_pr C a Γ with
      | none => none
      | some Γ1 => match ab_pr C b Γ1 with
        | none => none
        | some Γ2 => some (Γ2, D Γ ++ C)) else none
theorem ab_fin_ok {n : Nat} {V : List Value} {C : List (Nat × Nat × Int)} (hC : ab_co V C) (a b : ab_V) {o : Option (List ab_Y)} (ho : ∃ Γ, o = some Γ ∧ ab_ty n V Γ) {D : List ab_Y → List (Nat × Nat × Int)} (hD : ∀ Γ, ab_ty n V Γ → ab_co V (D Γ)) : ∃ r, ab_fin C a b o D = some r ∧ ab_ty n V r.1 ∧ ab_co V r.2 := by
  obtain ⟨Γ, rfl, hΓ⟩ := ho
  obtain ⟨Γ1, e1, t1⟩ := ab_pr_ok hC a hΓ
  obtain ⟨Γ2, e2, t2⟩ := ab_pr_ok hC b t1
  exact ⟨(Γ2, D Γ ++ C), by simp only [ab_fin, ab_ctr_ok hΓ hC (hD Γ hΓ), cond_true, e1, e2], t2, ab_con (hD Γ hΓ) hC⟩
/-- equal values have one flag -/
def ab_eqf (Γ : List ab_Y) (a b : ab_V) (o : Option (List ab_Y)) : Option (List ab_Y) := o.map fun Γ' => match Nat.beq (ab_fg Γ a) 3, Nat.beq (ab_fg Γ b) 3 with
  | true, _ => ab_f3 Γ' b
  | false, true => ab_f3 Γ' a
  | false, false => Γ'
/-- what a comparison that holds tells; none: it can't hold -/
def ab_as (c : ClassFile.Cond) (Γ : List ab_Y) (C : List (Nat × Nat × Int)) (a b : ab_V) (p q : Int × Int) : Option (List ab_Y × List (Nat × Nat × Int)) := match c with
  | .lt => ab_fin C a b (ab_lm2 Γ a p.1 (q.2 - 1) b (p.1 + 1) q.2) fun _ => ab_dd a b (-1)
  | .le => ab_fin C a b (ab_lm2 Γ a p.1 q.2 b p.1 q.2) fun _ => ab_dd a b 0
  | .gt => ab_fin C a b (ab_lm2 Γ a (q.1 + 1) p.2 b q.1 (p.2 - 1)) fun _ => ab_dd b a (-1)
  | .ge => ab_fin C a b (ab_lm2 Γ a q.1 p.2 b q.1 p.2) fun _ => ab_dd b a 0
  | .eq => ab_fin C a b (ab_eqf Γ a b (ab_lm2 Γ a q.1 q.2 b p.1 p.2)) fun _ => ab_dd a b 0 ++ ab_dd b a 0
  | .ne => ab_fin C a b (ab_lm2 Γ a (bif decide (q.1 = q.2) && decide (p.1 = q.1) then p.1 + 1 else p.1) (bif decide (q.1 = q.2) && decide (p.2 = q.1) then p.2 - 1 else p.2) b (bif decide (p.1 = p.2) && decide (q.1 = p.1) then q.1 + 1 else q.1) (bif decide (p.1 = p.2) && decide (q.2 = p.1) then q.2 - 1 else q.2)) fun Γ' => (bif ab_leq Γ' C 3 a b 0 then ab_dd a b (-1) else []) ++ (bif ab_leq Γ' C 3 b a 0 then ab_dd b a (-1) else [])
theorem ab_as_ok {n : Nat} {V : List Value} {Γ : List ab_Y} {C : List (Nat × Nat × Int)} (hΓ : ab_ty n V Γ) (hC : ab_co V C) {a b : ab_V} {x y : Int32} (ha : ab_cv V a = some (.int x)) (hb : ab_cv V b = some (.int y)) {p q : Int × Int} (hp : p.1 ≤ x.toInt ∧ x.toInt ≤ p.2) (hq : q.1 ≤ y.toInt ∧ y.toInt ≤ q.2) {c : ClassFile.Cond} (h : ax_holds c x y) :
    ∃ r, ab_as c Γ C a b p q = some r ∧ ab_ty n V r.1 ∧ ab_co V r.2 := by
  cases c with
  | lt =>
    have h' : x.toInt < y.toInt := Int32.lt_iff_toInt_lt.mp h
    exact ab_fin_ok hC a b (ab_lm2_ok hΓ ha hb (by omega) (by omega) (by omega) (by omega)) fun _ _ => ab_dd_ok ha hb (by omega)
  | le =>
    have h' : x.toInt ≤ y.toInt := Int32.le_iff_toInt_le.mp h
    exact ab_fin_ok hC a b (ab_lm2_ok hΓ ha hb (by omega) (by omega) (by omega) (by omega)) fun _ _ => ab_dd_ok ha hb (by omega)
  | gt =>
    have h' : y.toInt < x.toInt := Int32.lt_iff_toInt_lt.mp h
    exact ab_fin_ok hC a b (ab_lm2_ok hΓ ha hb (by omega) (by omega) (by omega) (by omega)) fun _ _ => ab_dd_ok hb ha (by omega)
  | ge =>
    have h' : y.toInt ≤ x.toInt := Int32.le_iff_toInt_le.mp h
    exact ab_fin_ok hC a b (ab_lm2_ok hΓ ha hb (by omega) (by omega) (by omega) (by omega)) fun _ _ => ab_dd_ok hb ha (by omega)
  | eq =>
    have h' : x = y := h
    subst h'
    refine ab_fin_ok hC a b ?_ fun _ _ => ab_con (ab_dd_ok ha hb (by omega)) (ab_dd_ok hb ha (by omega))
    obtain ⟨Γ', e, t⟩ := ab_lm2_ok hΓ ha hb (lo := q.1) (hi := q.2) (lo' := p.1) (hi' := p.2) (by omega) (by omega) (by omega) (by omega)
    have fa := ab_fg_ok hΓ ha
    have fb := ab_fg_ok hΓ hb
    rw [e]
    refine ⟨_, rfl, ?_⟩
    show ab_ty n V (match Nat.beq (ab_fg Γ a) 3, Nat.beq (ab_fg Γ b) 3 with
      | true, _ => ab_f3 Γ' b
      | false, true => ab_f3 Γ' a
      | false, false => Γ')
    cases e1 : Nat.beq (ab_fg Γ a) 3 with
    | true =>
      have e1' : ab_fg Γ a = 3 := by simpa [Nat.beq_eq] using e1
      rw [e1'] at fa
      exact ab_f3_ok t hb fa
    | false =>
      cases e2 : Nat.beq (ab_fg Γ b) 3 with
      | true =>
        have e2' : ab_fg Γ b = 3 := by simpa [Nat.beq_eq] using e2
        rw [e2'] at fb
        exact ab_f3_ok t ha fb
      | false => exact t
  | ne =>
    have h' : x.toInt ≠ y.toInt := fun e => h (Int32.toInt_inj.mp e)
    have k1 : ∀ {A B : Bool} {u v w : Int}, (A = true → B = true → u ≤ w) → (¬ (A = true ∧ B = true) → v ≤ w) → (bif A && B then u else v) ≤ w := by
      intro A B u v w f g
      cases A <;> cases B <;> first | exact f rfl rfl | exact g (by simp)
    have k2 : ∀ {A B : Bool} {u v w : Int}, (A = true → B = true → w ≤ u) → (¬ (A = true ∧ B = true) → w ≤ v) → w ≤ (bif A && B then u else v) := by
      intro A B u v w f g
      cases A <;> cases B <;> first | exact f rfl rfl | exact g (by simp)
    refine ab_fin_ok hC a b (ab_lm2_ok hΓ ha hb (k1 (fun e1 e2 => ?_) (fun _ => hp.1)) (k2 (fun e1 e2 => ?_) (fun _ => hp.2)) (k1 (fun e1 e2 => ?_) (fun _ => hq.1)) (k2 (fun e1 e2 => ?_) (fun _ => hq.2))) fun Γ' t' => ab_con ?_ ?_
    · have := of_decide_eq_true e1; have := of_decide_eq_true e2; omega
    · have := of_decide_eq_true e1; have := of_decide_eq_true e2; omega
    · have := of_decide_eq_true e1; have := of_decide_eq_true e2; omega
    · have := of_decide_eq_true e1; have := of_decide_eq_true e2; omega
    · cases e : ab_leq Γ' C 3 a b 0 with
      | false => exact ab_no
      | true => have := ab_leq_ok t' hC e ha hb; exact ab_dd_ok ha hb (by omega)
    · cases e : ab_leq Γ' C 3 b a 0 with
      | false => exact ab_no
      | true => have := ab_leq_ok t' hC e hb ha; exact ab_dd_ok hb ha (by omega)
