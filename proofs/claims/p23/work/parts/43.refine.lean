/-! ===== types of values; what a comparison tells ===== -/
def ab_let : List Int := [73, 86, 88, 76, 67, 68, 77, 105, 118, 120, 108, 99, 100, 109]
def ab_fge (a b : Int) (f g : Nat) : Bool := Nat.beq g 0 || (Nat.beq g f || match g with
  | 1 => decide (b ≤ 3583)
  | 2 => decide (b ≤ 13)
  | 3 => decide (a = b) && ab_let.contains a
  | _ => true)
theorem ab_fge_ok {a b : Int} {f g : Nat} (h : ab_fge a b f g = true) {x : Int} (h1 : a ≤ x) (h2 : x ≤ b) (hf : ab_fl f x) : ab_fl g x := by
  simp only [ab_fge, Bool.or_eq_true, Nat.beq_eq] at h
  rcases h with rfl | rfl | h
  · exact trivial
  · exact hf
  · match g, h with
    | 0, _ => exact trivial
    | 1, h => have := of_decide_eq_true h; intro _; omega
    | 2, h => have := of_decide_eq_true h; intro _; omega
    | 3, h =>
      simp only [Bool.and_eq_true, decide_eq_true_eq] at h
      have hx : x = a := by omega
      rw [hx]
      exact List.contains_iff_mem.mp h.2
    | g + 4, _ => exact trivial
def ab_le (τ σ : ab_Y) : Bool := match τ, σ with
  | .inl (a, b, f), .inl (c, d, g) => decide (c ≤ a) && (decide (b ≤ d) && ab_fge a b f g)
  | .inr none, .inr none => true
  | .inr (some M), .inr (some N) => Nat.beq (M &&& N) M
  | _, _ => false
theorem ab_le_ok {n : Nat} {v : Value} {τ σ : ab_Y} (h : ab_le τ σ = true) (hv : ab_ok n v τ) : ab_ok n v σ := by
  rcases τ with ⟨a, b, f⟩ | (_ | M) <;> rcases σ with ⟨c, d, g⟩ | (_ | N)
  · simp only [ab_le, Bool.and_eq_true, decide_eq_true_eq] at h
    obtain ⟨x, e, h1, h2, h3⟩ := hv
    exact ⟨x, e, by omega, by omega, ab_fge_ok h.2.2 h1 h2 h3⟩
  · cases h
  · cases h
  · cases h
  · exact hv
  · cases h
  · cases h
  · cases h
  · obtain ⟨k, e, h1, h2⟩ := hv
    have hm : M &&& N = M := by simpa [ab_le, Nat.beq_eq] using h
    refine ⟨k, e, h1, ?_⟩
    rw [← hm, Nat.testBit_and, Bool.and_eq_true] at h2
    exact h2.2
/-- the type of a value -/
def ab_to (Γ : List ab_Y) : ab_V → Option ab_Y
  | .inl c => bif ab_rng c then some (.inl (c, c, 0)) else none
  | .inr (.inl u) => Γ[u]?
  | .inr (.inr (.inl k)) => bif Nat.blt k 573 then some (.inr (some (2 ^ ab_k k))) else none
  | .inr (.inr (.inr _)) => none
theorem ab_to_ok {n : Nat} {V : List Value} {Γ : List ab_Y} (hn : 573 ≤ n) (hΓ : ab_ty n V Γ) {a : ab_V} {τ : ab_Y} (h : ab_to Γ a = some τ) {v : Value} (hv : ab_cv V a = some v) : ab_ok n v τ := by
  rcases a with c | (u | (k | j))
  · simp only [ab_to, ab_cv] at h hv
    cases e : ab_rng c with
    | false => rw [e] at h; cases h
    | true =>
      rw [e] at h hv
      cases h
      cases hv
      exact ⟨_, rfl, by rw [ab_rng_ok e]; exact ⟨Int.le_refl _, Int.le_refl _, trivial⟩⟩
  · obtain ⟨w, h1, h2⟩ := hΓ.2 u τ h
    have : w = v := Option.some.inj (h1.symm.trans hv)
    exact this ▸ h2
  · simp only [ab_to] at h
    cases e : Nat.blt k 573 with
    | false => rw [e] at h; cases h
    | true =>
      rw [e] at h
      cases h
      cases hv
      have : k < 573 := by simpa [Nat.blt_eq] using e
      exact ⟨k, rfl, by omega, by simp⟩
  · cases h
def ab_is (Γ : List ab_Y) (a : ab_V) (σ : ab_Y) : Bool := match ab_to Γ a with
  | some τ => ab_le τ σ
  | none => false
theorem ab_is_ok {n : Nat} {V : List Value} {Γ : List ab_Y} (hn : 573 ≤ n) (hΓ : ab_ty n V Γ) {a : ab_V} {σ : ab_Y} (h : ab_is Γ a σ = true) {v : Value} (hv : ab_cv V a = some v) : ab_ok n v σ := by
  unfold ab_is at h
  split at h
  · rename_i τ hτ
    exact ab_le_ok h (ab_to_ok hn hΓ hτ hv)
  · cases h
/-- a value is between bounds -/
def ab_lim (Γ : List ab_Y) (a : ab_V) (lo hi : Int) : Option (List ab_Y) := match a with
  | .inl c => bif decide (lo ≤ c) && decide (c ≤ hi) then some Γ else none
  | .inr (.inl u) => match Γ[u]? with
    | some (.inl (l, h, f)) => bif decide (max l lo ≤ min h hi) then some (Γ.set u (.inl (max l lo, min h hi, f))) else none
    | _ => some Γ
  | _ => some Γ
theorem ab_lim_ok {n : Nat} {V : List Value} {Γ : List ab_Y} (hΓ : ab_ty n V Γ) {a : ab_V} {x : Int32} (ha : ab_cv V a = some (.int x)) {lo hi : Int} (h1 : lo ≤ x.toInt) (h2 : x.toInt ≤ hi) : ∃ Γ', ab_lim Γ a lo hi = some Γ' ∧ ab_ty n V Γ' := by
  rcases a with c | (u | (k | j))
  · simp only [ab_cv] at ha
    cases e : ab_rng c with
    | false => rw [e] at ha; cases ha
    | true =>
      rw [e] at ha
      cases ha
      rw [ab_rng_ok e] at h1 h2
      refine ⟨Γ, ?_, hΓ⟩
      simp only [ab_lim, decide_eq_true h1, decide_eq_true h2, Bool.and_self, cond_true]
  · simp only [ab_lim]
    split
    · rename_i l h f hu
      obtain ⟨w, e1, y, e2, e3, e4, e5⟩ := hΓ.2 u _ hu
      have hw : w = .int x := Option.some.inj (e1.symm.trans ha)
      have hy : y = x := by rw [e2] at hw; cases hw; rfl
      subst hy
      have hd : max l lo ≤ min h hi := by omega
      refine ⟨Γ.set u (.inl (max l lo, min h hi, f)), by simp only [decide_eq_true hd, cond_true], by simp [hΓ.1], fun r τ hr => ?_⟩
      by_cases hru : r = u
      · subst hru
        have hlt : r < Γ.length := (List.getElem?_eq_some_iff.mp hu).1
        rw [List.getElem?_set_self hlt] at hr
        cases hr
        exact ⟨w, e1, y, e2, by omega, by omega, e5⟩
      · rw [List.getElem?_set_ne (fun q => hru q.symm)] at hr
        exact hΓ.2 r τ hr
    · exact ⟨Γ, rfl, hΓ⟩
  · exact ⟨Γ, rfl, hΓ⟩
  · exact ⟨Γ, rfl, hΓ⟩
def ab_lm2 (Γ : List ab_Y) (a : ab_V) (lo hi : Int) (b : ab_V) (lo' hi' : Int) : Option (List ab_Y) := match ab_lim Γ a lo hi with
  | some Γ1 => ab_lim Γ1 b lo' hi'
  | none => none
theorem ab_lm2_ok {n : Nat} {V : List Value} {Γ : List ab_Y} (hΓ : ab_ty n V Γ) {a b : ab_V} {x y : Int32} (ha : ab_cv V a = some (.int x)) (hb : ab_cv V b = some (.int y)) {lo hi lo' hi' : Int} (h1 : lo ≤ x.toInt) (h2 : x.toInt ≤ hi) (h3 : lo' ≤ y.toInt) (h4 : y.toInt ≤ hi') :
    ∃ Γ', ab_lm2 Γ a lo hi b lo' hi' = some Γ' ∧ ab_ty n V Γ' := by
  obtain ⟨Γ1, e1, t1⟩ := ab_lim_ok hΓ ha h1 h2
  obtain ⟨Γ2, e2, t2⟩ := ab_lim_ok t1 hb h3 h4
  exact ⟨Γ2, by simp only [ab_lm2, e1, e2], t2⟩
/-- a - b is c at most, of symbols -/
def ab_dd (a b : ab_V) (c : Int) : List (Nat × Nat × Int) := match a, b with
  | .inr (.inl u), .inr (.inl w) => [(u, w, c)]
  | _, _ => []
theorem ab_dd_ok {V : List Value} {a b : ab_V} {x y : Int32} {c : Int} (ha : ab_cv V a = some (.int x)) (hb : ab_cv V b = some (.int y)) (h : x.toInt - y.toInt ≤ c) : ab_co V (ab_dd a b c) := by
  unfold ab_dd
  split
  · intro q hq
    rcases List.mem_cons.mp hq with rfl | hq
    · exact ⟨x, y, ha, hb, h⟩
    · cases hq
  · exact ab_no
def ab_ng : ClassFile.Cond → ClassFile.Cond
  | .eq => .ne | .ne => .eq | .lt => .ge | .ge => .lt | .gt => .le | .le => .gt
theorem ab_ng_ok {c : ClassFile.Cond} {x y : Int32} (h : ¬ ax_holds c x y) : ax_holds (ab_ng c) x y := by
  cases c with
  | eq => exact h
  | ne => exact Classical.byContradiction h
  | lt => exact Int32.not_lt.mp h
  | ge => exact Int32.not_le.mp h
  | gt => exact Int32.not_lt.mp h
  | le => exact Int32.not_le.mp h
/-- what a comparison that holds tells; none: it can't hold -/
def ab_as (c : ClassFile.Cond) (Γ : List ab_Y) (C : List (Nat × Nat × Int)) (a b : ab_V) (p q : Int × Int) : Option (List ab_Y × List (Nat × Nat × Int)) := match c with
  | .lt => (ab_lm2 Γ a p.1 (q.2 - 1) b (p.1 + 1) q.2).map fun Γ' => (Γ', ab_dd a b (-1) ++ C)
  | .le => (ab_lm2 Γ a p.1 q.2 b p.1 q.2).map fun Γ' => (Γ', ab_dd a b 0 ++ C)
  | .gt => (ab_lm2 Γ a (q.1 + 1) p.2 b q.1 (p.2 - 1)).map fun Γ' => (Γ', ab_dd b a (-1) ++ C)
  | .ge => (ab_lm2 Γ a q.1 p.2 b q.1 p.2).map fun Γ' => (Γ', ab_dd b a 0 ++ C)
  | .eq => (ab_lm2 Γ a q.1 q.2 b p.1 p.2).map fun Γ' => (Γ', ab_dd a b 0 ++ (ab_dd b a 0 ++ C))
  | .ne => (ab_lm2 Γ a (bif decide (q.1 = q.2) && decide (p.1 = q.1) then p.1 + 1 else p.1) (bif decide (q.1 = q.2) && decide (p.2 = q.1) then p.2 - 1 else p.2) b (bif decide (p.1 = p.2) && decide (q.1 = p.1) then q.1 + 1 else q.1) (bif decide (p.1 = p.2) && decide (q.2 = p.1) then q.2 - 1 else q.2)).map fun Γ' => (Γ', C)
theorem ab_as_ok {n : Nat} {V : List Value} {Γ : List ab_Y} {C : List (Nat × Nat × Int)} (hΓ : ab_ty n V Γ) (hC : ab_co V C) {a b : ab_V} {x y : Int32} (ha : ab_cv V a = some (.int x)) (hb : ab_cv V b = some (.int y)) {p q : Int × Int} (hp : p.1 ≤ x.toInt ∧ x.toInt ≤ p.2) (hq : q.1 ≤ y.toInt ∧ y.toInt ≤ q.2) {c : ClassFile.Cond} (h : ax_holds c x y) :
    ∃ r, ab_as c Γ C a b p q = some r ∧ ab_ty n V r.1 ∧ ab_co V r.2 := by
  have go : ∀ {lo hi lo' hi' : Int} {D : List (Nat × Nat × Int)}, lo ≤ x.toInt → x.toInt ≤ hi → lo' ≤ y.toInt → y.toInt ≤ hi' → ab_co V D → ∃ r, (ab_lm2 Γ a lo hi b lo' hi').map (fun Γ' => (Γ', D)) = some r ∧ ab_ty n V r.1 ∧ ab_co V r.2 := by
    intro lo hi lo' hi' D h1 h2 h3 h4 hD
    obtain ⟨Γ', e, t⟩ := ab_lm2_ok hΓ ha hb h1 h2 h3 h4
    exact ⟨(Γ', D), by rw [e]; rfl, t, hD⟩
  cases c with
  | lt =>
    have h' : x.toInt < y.toInt := Int32.lt_iff_toInt_lt.mp h
    exact go (by omega) (by omega) (by omega) (by omega) (ab_con (ab_dd_ok ha hb (by omega)) hC)
  | le =>
    have h' : x.toInt ≤ y.toInt := Int32.le_iff_toInt_le.mp h
    exact go (by omega) (by omega) (by omega) (by omega) (ab_con (ab_dd_ok ha hb (by omega)) hC)
  | gt =>
    have h' : y.toInt < x.toInt := Int32.lt_iff_toInt_lt.mp h
    exact go (by omega) (by omega) (by omega) (by omega) (ab_con (ab_dd_ok hb ha (by omega)) hC)
  | ge =>
    have h' : y.toInt ≤ x.toInt := Int32.le_iff_toInt_le.mp h
    exact go (by omega) (by omega) (by omega) (by omega) (ab_con (ab_dd_ok hb ha (by omega)) hC)
  | eq =>
    have h' : x = y := h
    subst h'
    exact go (by omega) (by omega) (by omega) (by omega) (ab_con (ab_dd_ok ha hb (by omega)) (ab_con (ab_dd_ok hb ha (by omega)) hC))
  | ne =>
    have h' : x.toInt ≠ y.toInt := fun e => h (Int32.toInt_inj.mp e)
    have k1 : ∀ {A B : Bool} {u v w : Int}, (A = true → B = true → u ≤ w) → (¬ (A = true ∧ B = true) → v ≤ w) → (bif A && B then u else v) ≤ w := by
      intro A B u v w f g
      cases A <;> cases B <;> first | exact f rfl rfl | exact g (by simp)
    have k2 : ∀ {A B : Bool} {u v w : Int}, (A = true → B = true → w ≤ u) → (¬ (A = true ∧ B = true) → w ≤ v) → w ≤ (bif A && B then u else v) := by
      intro A B u v w f g
      cases A <;> cases B <;> first | exact f rfl rfl | exact g (by simp)
    refine go (k1 (fun e1 e2 => ?_) (fun _ => hp.1)) (k2 (fun e1 e2 => ?_) (fun _ => hp.2)) (k1 (fun e1 e2 => ?_) (fun _ => hq.1)) (k2 (fun e1 e2 => ?_) (fun _ => hq.2)) hC
    · have := of_decide_eq_true e1; have := of_decide_eq_true e2; omega
    · have := of_decide_eq_true e1; have := of_decide_eq_true e2; omega
    · have := of_decide_eq_true e1; have := of_decide_eq_true e2; omega
    · have := of_decide_eq_true e1; have := of_decide_eq_true e2; omega
