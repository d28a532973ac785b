/-! ===== by hand: how many fillings there are ===== -/
def Pf (o : Nat → Bool) : Nat → Nat
  | 0 => 1
  | j + 1 => Pf o j * (if o j then 14 else 1)
def Wc (o : Nat → Bool) (s : Nat) : Nat → Nat
  | 0 => 1
  | c + 1 => (if o (s - (c + 1)) then 14 else 1) * Wc o s c
def Hn (o : Nat → Bool) (dg : Nat → Nat) : Nat → Nat
  | 0 => 0
  | j + 1 => if o j then Hn o dg j * 14 + dg j else Hn o dg j + (if dg j = 14 then 1 else 0)
theorem Hn_s (o : Nat → Bool) (dg : Nat → Nat) (j : Nat) : Hn o dg (j + 1) = if o j then Hn o dg j * 14 + dg j else Hn o dg j + (if dg j = 14 then 1 else 0) := rfl
theorem Wc_s {o : Nat → Bool} {s j : Nat} (h : j < s) : Wc o s (s - j) = (if o j then 14 else 1) * Wc o s (s - (j + 1)) := by
  obtain ⟨c, hc⟩ : ∃ c, s - j = c + 1 := ⟨s - j - 1, by omega⟩
  rw [hc, show s - (j + 1) = c by omega]
  show (if o (s - (c + 1)) then 14 else 1) * _ = _
  rw [show s - (c + 1) = j by omega]
theorem Wc_pos {o : Nat → Bool} {s : Nat} : ∀ c : Nat, 1 ≤ Wc o s c
  | 0 => Nat.le_refl 1
  | c + 1 => by
    have := Wc_pos (o := o) (s := s) c
    show 1 ≤ (if _ then 14 else 1) * Wc o s c
    split <;> omega
theorem Pf_Wc {o : Nat → Bool} {s : Nat} : ∀ c : Nat, c ≤ s → Pf o (s - c) * Wc o s c = Pf o s
  | 0, _ => by show Pf o s * 1 = Pf o s; omega
  | c + 1, h => by
    have ih := Pf_Wc (o := o) (s := s) c (by omega)
    rw [show s - c = s - (c + 1) + 1 by omega] at ih
    rw [← ih]
    show Pf o (s - (c + 1)) * ((if o (s - (c + 1)) then 14 else 1) * Wc o s c) = Pf o (s - (c + 1)) * (if o (s - (c + 1)) then 14 else 1) * Wc o s c
    rw [Nat.mul_assoc]
theorem Wc_all {o : Nat → Bool} {s : Nat} : Wc o s s = Pf o s := by
  have := Pf_Wc (o := o) (s := s) s (Nat.le_refl s)
  rw [Nat.sub_self] at this
  rw [← this]
  show _ = 1 * _
  rw [Nat.one_mul]
theorem Hn_of {o : Nat → Bool} {dg dg' : Nat → Nat} : ∀ j : Nat, (∀ i, i < j → dg' i = dg i) → Hn o dg' j = Hn o dg j
  | 0, _ => rfl
  | j + 1, h => by
    rw [Hn_s, Hn_s, Hn_of j (fun i hi => h i (by omega)), h j (by omega)]
/-- up: lower bounds -/
theorem Hn_ge {o : Nat → Bool} {dg : Nat → Nat} {s : Nat} : ∀ (c j : Nat), j + c = s → Hn o dg j * Wc o s (s - j) ≤ Hn o dg s
  | 0, j, h => by
    have : j = s := by omega
    subst this
    rw [Nat.sub_self]
    show Hn o dg j * 1 ≤ _
    omega
  | c + 1, j, h => by
    refine Nat.le_trans ?_ (Hn_ge c (j + 1) (by omega))
    rw [Wc_s (by omega), Hn_s]
    cases ho : o j with
    | true =>
      rw [if_pos rfl, if_pos rfl, ← Nat.mul_assoc, Nat.add_mul]
      exact Nat.le_add_right _ _
    | false =>
      rw [if_neg (by decide), if_neg (by decide), Nat.one_mul, Nat.add_mul]
      exact Nat.le_add_right _ _
/-- upper bounds, where no digit is used up -/
theorem Hn_le {o : Nat → Bool} {dg : Nat → Nat} {s : Nat} : ∀ (c j : Nat), j + c = s → (∀ i, j ≤ i → i < s → dg i ≤ 13) → Hn o dg s + 1 ≤ (Hn o dg j + 1) * Wc o s (s - j)
  | 0, j, h, _ => by
    have : j = s := by omega
    subst this
    rw [Nat.sub_self]
    show _ ≤ (Hn o dg j + 1) * 1
    omega
  | c + 1, j, h, hd => by
    refine Nat.le_trans (Hn_le c (j + 1) (by omega) (fun i h1 h2 => hd i (by omega) h2)) ?_
    rw [Wc_s (show j < s by omega)]
    have := hd j (Nat.le_refl j) (by omega)
    rw [Hn_s]
    cases ho : o j with
    | true =>
      rw [if_pos rfl, if_pos rfl, ← Nat.mul_assoc]
      exact Nat.mul_le_mul_right _ (by omega)
    | false =>
      rw [if_neg (show ¬ (false = true) by decide), if_neg (show ¬ (dg j = 14) by omega), if_neg (show ¬ (false = true) by decide), Nat.one_mul]
      exact Nat.le_refl _
theorem Hn_cl {o : Nat → Bool} {dg : Nat → Nat} {j : Nat} : ∀ c : Nat, (∀ i, j ≤ i → i < j + c → o i = false ∧ dg i ≤ 13) → Hn o dg (j + c) = Hn o dg j
  | 0, _ => rfl
  | c + 1, h => by
    have h1 := h (j + c) (by omega) (by omega)
    show Hn o dg (j + c + 1) = _
    rw [Hn_s, h1.1, if_neg (by decide), if_neg (by omega)]
    show Hn o dg (j + c) + 0 = _
    rw [Hn_cl c (fun i a b => h i a (by omega))]
    rfl
/-- the first open place -/
theorem op1 {o : Nat → Bool} {s : Nat} : ∀ (c j : Nat), j + c = s → 1 < Wc o s (s - j) → ∃ p, j ≤ p ∧ p < s ∧ o p = true ∧ (∀ i, j ≤ i → i < p → o i = false) ∧ Wc o s (s - p) = Wc o s (s - j)
  | 0, j, h, hw => by
    have : j = s := by omega
    subst this
    rw [Nat.sub_self] at hw
    exact absurd hw (by show ¬ 1 < 1; omega)
  | c + 1, j, h, hw => by
    cases ho : o j with
    | true => exact ⟨j, Nat.le_refl j, by omega, ho, fun i a b => absurd a (by omega), rfl⟩
    | false =>
      have e := Wc_s (o := o) (show j < s by omega)
      rw [ho] at e
      have e' : Wc o s (s - j) = Wc o s (s - (j + 1)) := by rw [e]; show 1 * _ = _; rw [Nat.one_mul]
      obtain ⟨p, p1, p2, p3, p4, p5⟩ := op1 (o := o) (s := s) c (j + 1) (by omega) (by rw [← e']; exact hw)
      refine ⟨p, by omega, p2, p3, fun i a b => ?_, by rw [p5, e']⟩
      by_cases q : i = j
      · rw [q]; exact ho
      · exact p4 i (by omega) b
/-- where four places are open: few are what may be, or the first is not the least -/
theorem four {o : Nat → Bool} {dg : Nat → Nat} {s : Nat} (hT : Pf o s = 38416) (hd : ∀ i, i < s → dg i ≤ 13) (hK : ∀ p q : Nat, p < q → q + 1 < s → dg p = 0 → dg q = 0) : Hn o dg s < 196 ∨ 2744 ≤ Hn o dg s := by
  have w0 : Wc o s (s - 0) = 38416 := by rw [Nat.sub_zero, Wc_all, hT]
  obtain ⟨p, p1, p2, p3, p4, p5⟩ := op1 (o := o) (s := s) s 0 (by omega) (by rw [w0]; decide)
  have h0 : Hn o dg p = 0 := by
    have := Hn_cl (o := o) (dg := dg) (j := 0) p (fun i a b => ⟨p4 i a (by omega), hd i (by omega)⟩)
    rw [Nat.zero_add] at this
    rw [this]; rfl
  have w1 : Wc o s (s - (p + 1)) = 2744 := by
    have := Wc_s (o := o) p2
    rw [p3, p5, w0, if_pos rfl] at this
    omega
  have h1 : Hn o dg (p + 1) = dg p := by
    rw [Hn_s]
    rw [p3, if_pos rfl, h0]
    omega
  by_cases hp : dg p = 0
  · obtain ⟨q, q1, q2, q3, q4, q5⟩ := op1 (o := o) (s := s) (s - (p + 1)) (p + 1) (by omega) (by rw [w1]; decide)
    have h2 : Hn o dg q = 0 := by
      have := Hn_cl (o := o) (dg := dg) (j := p + 1) (q - (p + 1)) (fun i a b => ⟨q4 i a (by omega), hd i (by omega)⟩)
      rw [show p + 1 + (q - (p + 1)) = q by omega] at this
      rw [this, h1, hp]
    have w2 : Wc o s (s - (q + 1)) = 196 := by
      have := Wc_s (o := o) q2
      rw [q3, q5, w1, if_pos rfl] at this
      omega
    have hq1 : q + 1 < s := by
      by_cases e : q + 1 = s
      · rw [e, Nat.sub_self] at w2
        exact absurd w2 (by show ¬ 1 = 196; omega)
      · omega
    have hq := hK p q (by omega) hq1 hp
    have h3 : Hn o dg (q + 1) = 0 := by
      rw [Hn_s]
      rw [q3, if_pos rfl, h2, hq]
    have := Hn_le (o := o) (dg := dg) (s := s) (s - (q + 1)) (q + 1) (by omega) (fun i _ b => hd i b)
    rw [h3, w2] at this
    left; omega
  · right
    have := Hn_ge (o := o) (dg := dg) (s := s) (s - (p + 1)) (p + 1) (by omega)
    rw [h1, w1] at this
    omega
/-- how many may have been said, by how far the filling is -/
def psi (T N : Nat) : Nat := if T = 38416 then (if N ≤ 196 then N else if N ≤ 2744 then 196 else N - 2548) else N
theorem psi_mono {T N M : Nat} (h : N ≤ M) : psi T N ≤ psi T M := by
  unfold psi
  split
  · split <;> split <;> (try split) <;> (try split) <;> omega
  · exact h
theorem psi_s {T N : Nat} (h : T = 38416 → N < 196 ∨ 2744 ≤ N) : psi T N + 1 ≤ psi T (N + 1) := by
  unfold psi
  split
  · rename_i e
    have := h e
    split <;> split <;> (try split) <;> (try split) <;> omega
  · omega
/-! counting what is not 0 -/
def nz (f : Int → Int) : Nat → Nat
  | 0 => 0
  | i + 1 => nz f i + (if f (i : Int) = 0 then 0 else 1)
theorem nz_free {f : Int → Int} : ∀ m : Nat, nz f m < m → ∃ z : Nat, z < m ∧ f (z : Int) = 0
  | 0, h => absurd h (Nat.not_lt_zero _)
  | m + 1, h => by
    by_cases e : f (m : Int) = 0
    · exact ⟨m, by omega, e⟩
    · have h' : nz f m + (if f (m : Int) = 0 then 0 else 1) < m + 1 := h
      rw [if_neg e] at h'
      obtain ⟨z, z1, z2⟩ := nz_free (f := f) m (by omega)
      exact ⟨z, by omega, z2⟩
theorem nz_of {f g : Int → Int} : ∀ m : Nat, (∀ i : Nat, i < m → g (i : Int) = f (i : Int)) → nz g m = nz f m
  | 0, _ => rfl
  | m + 1, h => by
    unfold nz
    rw [nz_of m (fun i hi => h i (by omega)), h m (by omega)]
theorem nz_set {f g : Int → Int} {a : Int} (h : ∀ i : Int, i ≠ a → g i = f i) : ∀ m : Nat, nz g m ≤ nz f m + (if 0 ≤ a ∧ a < (m : Int) then 1 else 0)
  | 0 => by show 0 ≤ _; omega
  | m + 1 => by
    have ih := nz_set h m
    show nz g m + _ ≤ nz f m + _ + _
    by_cases e : (m : Int) = a
    · rw [if_neg (show ¬ (0 ≤ a ∧ a < (m : Int)) by omega)] at ih
      rw [if_pos (show 0 ≤ a ∧ a < ((m + 1 : Nat) : Int) by omega)]
      split <;> split <;> omega
    · rw [h _ e]
      by_cases q : 0 ≤ a ∧ a < (m : Int)
      · rw [if_pos q] at ih
        rw [if_pos (show 0 ≤ a ∧ a < ((m + 1 : Nat) : Int) by omega)]
        omega
      · rw [if_neg q] at ih
        rw [if_neg (show ¬ (0 ≤ a ∧ a < ((m + 1 : Nat) : Int)) by omega)]
        omega
theorem mc_us3 (x : Int32) : 0 ≤ ((x.toUInt32 >>> ((Int32.ofInt 3).toUInt32 &&& Int32.toUInt32 31)).toInt32).toInt := by
  rw [show (Int32.ofInt 3).toUInt32 &&& Int32.toUInt32 31 = (3 : UInt32) from by decide]
  show 0 ≤ ((x.toUInt32 >>> 3).toBitVec).toInt
  have h1 : (x.toUInt32 >>> 3).toBitVec.toNat = x.toUInt32.toNat / 8 := by
    show (x.toUInt32 >>> 3).toNat = _
    rw [UInt32.toNat_shiftRight]
    show x.toUInt32.toNat >>> 3 = _
    rw [Nat.shiftRight_eq_div_pow]
  have h2 := x.toUInt32.toNat_lt
  rw [BitVec.toInt_eq_toNat_of_lt (by rw [h1]; omega)]
  omega
