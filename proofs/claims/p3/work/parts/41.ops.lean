/-! ===== operations on ints, over bounds ===== -/
def ab_top : ab_Y := .inl (-2147483648, 2147483647, 0)
theorem ab_top_ok (n : Nat) (x : Int32) : ab_ok n (.int x) ab_top := ⟨x, rfl, by have := x.le_toInt; omega, by have := x.toInt_lt; omega, trivial⟩
def ab_sy : ab_V → Option Nat
  | .inr (.inl u) => some u
  | _ => none
/-- t - a is between p and q, where a is a symbol -/
def ab_d2 (t : Nat) (a : ab_V) (p q : Int) : List (Nat × Nat × Int) := match a with
  | .inr (.inl u) => [(t, u, q), (u, t, -p)]
  | _ => []
theorem ab_d2_ok {V : List Value} {a : ab_V} {p q : Int} {x z : Int32} (ha : ab_cv V a = some (.int x)) (h1 : p ≤ z.toInt - x.toInt) (h2 : z.toInt - x.toInt ≤ q) : ab_co (V ++ [.int z]) (ab_d2 V.length a p q) := by
  rcases a with c | (u | (k | j))
  · intro r hr; cases hr
  · intro r hr
    have hu : (V ++ [Value.int z])[u]? = some (.int x) := ab_cv_app (a := .inr (.inl u)) _ ha
    rcases List.mem_cons.mp hr with rfl | hr
    · exact ⟨z, x, ab_new V _, hu, h2⟩
    · rcases List.mem_cons.mp hr with rfl | hr
      · exact ⟨x, z, hu, ab_new V _, by simp only; omega⟩
      · cases hr
  · intro r hr; cases hr
  · intro r hr; cases hr
/-- t - a is q at most -/
def ab_d1 (t : Nat) (a : ab_V) (q : Int) : List (Nat × Nat × Int) := match a with
  | .inr (.inl u) => [(t, u, q)]
  | _ => []
theorem ab_d1_ok {V : List Value} {a : ab_V} {q : Int} {x z : Int32} (ha : ab_cv V a = some (.int x)) (h2 : z.toInt - x.toInt ≤ q) : ab_co (V ++ [.int z]) (ab_d1 V.length a q) := by
  rcases a with c | (u | (k | j))
  · intro r hr; cases hr
  · intro r hr
    rcases List.mem_cons.mp hr with rfl | hr
    · exact ⟨z, x, ab_new V _, ab_cv_app (a := .inr (.inl u)) _ ha, h2⟩
    · cases hr
  · intro r hr; cases hr
  · intro r hr; cases hr
/-- between bounds, or all ints -/
def ab_mk (lo hi : Int) (f : Nat) (C : List (Nat × Nat × Int)) : ab_R := bif ab_rng lo && ab_rng hi then (bif decide (lo = hi) then .inl (.inl lo) else .inr (.inl (lo, hi, f), C)) else .inr (ab_top, [])
theorem ab_mk_ok {n : Nat} {V : List Value} {lo hi : Int} {f : Nat} {C : List (Nat × Nat × Int)} {z : Int32} (h : ab_rng lo = true → ab_rng hi = true → lo ≤ z.toInt ∧ z.toInt ≤ hi ∧ ab_fl f z.toInt ∧ ab_co (V ++ [.int z]) C) : ab_den n V (ab_mk lo hi f C) (.int z) := by
  unfold ab_mk
  cases e1 : ab_rng lo with
  | false => exact ⟨ab_top_ok n z, fun q hq => by cases hq⟩
  | true =>
    cases e2 : ab_rng hi with
    | false => exact ⟨ab_top_ok n z, fun q hq => by cases hq⟩
    | true =>
      obtain ⟨h1, h2, h3, h4⟩ := h e1 e2
      simp only [Bool.and_self, cond_true]
      cases e3 : decide (lo = hi) with
      | true =>
        have := of_decide_eq_true e3
        show ab_cv V (.inl lo) = _
        simp only [ab_cv, e1, cond_true]
        have hz : z.toInt = lo := by omega
        rw [← hz, Int32.ofInt_toInt]
      | false => exact ⟨⟨z, rfl, h1, h2, h3⟩, h4⟩
theorem ab_no {V : List Value} : ab_co V [] := fun q hq => by cases hq
theorem ab_con {V : List Value} {C D : List (Nat × Nat × Int)} (h1 : ab_co V C) (h2 : ab_co V D) : ab_co V (C ++ D) := ab_co_two h1 h2
section OPS
variable {n : Nat} {V : List Value} {Γ : List ab_Y} {C : List (Nat × Nat × Int)} {a b : ab_V} {x y : Int32} {p q : Int × Int}
def ab_add (t : Nat) (a b : ab_V) (p q : Int × Int) : ab_R := bif decide (b = .inl 0) then .inl a else bif decide (a = .inl 0) then .inl b else ab_mk (p.1 + q.1) (p.2 + q.2) 0 (ab_d2 t a q.1 q.2 ++ ab_d2 t b p.1 p.2)
theorem ab_add_ok (ha : ab_cv V a = some (.int x)) (hb : ab_cv V b = some (.int y)) (hp : p.1 ≤ x.toInt ∧ x.toInt ≤ p.2) (hq : q.1 ≤ y.toInt ∧ y.toInt ≤ q.2) : ab_den n V (ab_add V.length a b p q) (.int (x + y)) := by
  unfold ab_add
  cases e1 : decide (b = .inl 0) with
  | true =>
    have := of_decide_eq_true e1
    subst this
    have hy : y = 0 := by cases hb; rfl
    subst hy
    show ab_cv V a = _
    rw [ha, Int32.add_zero]
  | false =>
    simp only [cond_false]
    cases e2 : decide (a = .inl 0) with
    | true =>
      have := of_decide_eq_true e2
      subst this
      have hx : x = 0 := by cases ha; rfl
      subst hx
      show ab_cv V b = _
      rw [hb, Int32.zero_add]
    | false =>
      refine ab_mk_ok fun r1 r2 => ?_
      rw [ab_rng_iff] at r1 r2
      have hz : (x + y).toInt = x.toInt + y.toInt := by rw [Int32.toInt_add, ab_bm (by omega) (by omega)]
      rw [hz]
      exact ⟨by omega, by omega, trivial, ab_con (ab_d2_ok ha (by omega) (by omega)) (ab_d2_ok hb (by omega) (by omega))⟩
def ab_mn (a : Option Int) (b : Int) : Int := match a with
  | some c => min c b
  | none => b
def ab_sub (Γ : List ab_Y) (C : List (Nat × Nat × Int)) (t : Nat) (a b : ab_V) (p q : Int × Int) : ab_R := bif decide (b = .inl 0) then .inl a else ab_mk (- ab_mn (ab_ub Γ C 3 b a) (q.2 - p.1)) (ab_mn (ab_ub Γ C 3 a b) (p.2 - q.1)) 0 (ab_d2 t a (-q.2) (-q.1))
theorem ab_mn_le {o : Option Int} {b t : Int} (h1 : ∀ c, o = some c → t ≤ c) (h2 : t ≤ b) : t ≤ ab_mn o b := by
  unfold ab_mn
  split
  · have := h1 _ rfl; omega
  · exact h2
theorem ab_sub_ok (hΓ : ab_ty n V Γ) (hC : ab_co V C) (ha : ab_cv V a = some (.int x)) (hb : ab_cv V b = some (.int y)) (hp : p.1 ≤ x.toInt ∧ x.toInt ≤ p.2) (hq : q.1 ≤ y.toInt ∧ y.toInt ≤ q.2) : ab_den n V (ab_sub Γ C V.length a b p q) (.int (x - y)) := by
  unfold ab_sub
  cases e1 : decide (b = .inl 0) with
  | true =>
    have := of_decide_eq_true e1
    subst this
    have hy : y = 0 := by cases hb; rfl
    subst hy
    show ab_cv V a = _
    rw [ha, Int32.sub_zero]
  | false =>
    have h1 : x.toInt - y.toInt ≤ ab_mn (ab_ub Γ C 3 a b) (p.2 - q.1) := ab_mn_le (fun c hc => ab_ub_ok hΓ hC 3 a b c hc x y ha hb) (by omega)
    have h2 : y.toInt - x.toInt ≤ ab_mn (ab_ub Γ C 3 b a) (q.2 - p.1) := ab_mn_le (fun c hc => ab_ub_ok hΓ hC 3 b a c hc y x hb ha) (by omega)
    refine ab_mk_ok fun r1 r2 => ?_
    rw [ab_rng_iff] at r1 r2
    have hz : (x - y).toInt = x.toInt - y.toInt := by rw [Int32.toInt_sub, ab_bm (by omega) (by omega)]
    rw [hz]
    exact ⟨by omega, by omega, trivial, ab_d2_ok ha (by omega) (by omega)⟩
def ab_min4 (a b c d : Int) : Int := min (min a b) (min c d)
def ab_max4 (a b c d : Int) : Int := max (max a b) (max c d)
def ab_mul (p q : Int × Int) : ab_R := ab_mk (ab_min4 (p.1 * q.1) (p.1 * q.2) (p.2 * q.1) (p.2 * q.2)) (ab_max4 (p.1 * q.1) (p.1 * q.2) (p.2 * q.1) (p.2 * q.2)) 0 []
theorem ab_corner {a b c d x y : Int} (h1 : a ≤ x) (h2 : x ≤ b) (h3 : c ≤ y) (h4 : y ≤ d) : ab_min4 (a * c) (a * d) (b * c) (b * d) ≤ x * y ∧ x * y ≤ ab_max4 (a * c) (a * d) (b * c) (b * d) := by
  unfold ab_min4 ab_max4
  have hlo : min (a * y) (b * y) ≤ x * y ∧ x * y ≤ max (a * y) (b * y) := by
    rcases Int.le_total 0 y with hy | hy
    · have := Int.mul_le_mul_of_nonneg_right h1 hy
      have := Int.mul_le_mul_of_nonneg_right h2 hy
      omega
    · have := Int.mul_le_mul_of_nonpos_right h1 hy
      have := Int.mul_le_mul_of_nonpos_right h2 hy
      omega
  have hs : ∀ t : Int, min (t * c) (t * d) ≤ t * y ∧ t * y ≤ max (t * c) (t * d) := by
    intro t
    rcases Int.le_total 0 t with ht | ht
    · have := Int.mul_le_mul_of_nonneg_left h3 ht
      have := Int.mul_le_mul_of_nonneg_left h4 ht
      omega
    · have := Int.mul_le_mul_of_nonpos_left ht h3
      have := Int.mul_le_mul_of_nonpos_left ht h4
      omega
  have h5 := hs a
  have h6 := hs b
  omega
theorem ab_mul_ok (hp : p.1 ≤ x.toInt ∧ x.toInt ≤ p.2) (hq : q.1 ≤ y.toInt ∧ y.toInt ≤ q.2) : ab_den n V (ab_mul p q) (.int (x * y)) := by
  unfold ab_mul
  refine ab_mk_ok fun r1 r2 => ?_
  rw [ab_rng_iff] at r1 r2
  have hc := ab_corner hp.1 hp.2 hq.1 hq.2
  have hz : (x * y).toInt = x.toInt * y.toInt := by rw [Int32.toInt_mul, ab_bm (by omega) (by omega)]
  rw [hz]
  exact ⟨hc.1, hc.2, trivial, ab_no⟩
def ab_neg (p : Int × Int) : ab_R := ab_mk (-p.2) (-p.1) 0 []
theorem ab_neg_ok (hp : p.1 ≤ x.toInt ∧ x.toInt ≤ p.2) : ab_den n V (ab_neg p) (.int (-x)) := by
  refine ab_mk_ok fun r1 r2 => ?_
  rw [ab_rng_iff] at r1 r2
  have hz : (-x).toInt = -x.toInt := by rw [Int32.toInt_neg, ab_bm (by omega) (by omega)]
  rw [hz]
  exact ⟨by omega, by omega, trivial, ab_no⟩
end OPS
