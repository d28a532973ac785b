/-! ===== what is told of cells beyond their kinds ===== -/
/-- a place of a cell: a field, an element; below 0 the length of an array -/
def ab_rd (h : ax_H) (k : Nat) (i : Int) : Option Value := match ax_raw h k with
  | some (.inr (_, fs)) => bif decide (i < 0) then none else fs[i.toNat]?
  | some (.inl (_, N, .inl f)) => bif decide (i < 0) then some (.int (Int32.ofNat N)) else some (.int (ax_fi f i.toNat))
  | some (.inl (_, N, .inr f)) => bif decide (i < 0) then some (.int (Int32.ofNat N)) else (ax_fr f i.toNat).map Value.ref
  | none => none
def ab_ri (h : ax_H) (k : Nat) (i : Int) : Int := match ab_rd h k i with
  | some (.int x) => x.toInt
  | _ => 0
/-- how many of the first are gaps -/
def ab_gc (h : ax_H) (k : Nat) : Nat → Nat
  | 0 => 0
  | i + 1 => ab_gc h k i + (if ab_ri h k i = 14 then 1 else 0)
/-- the stone's gaps are few, in the class and in the reference; the class's stone has room for what it found -/
def ab_J (h : ax_H) : Prop := (ab_gc h 29 (ab_ri h 28 1).toNat ≤ 3 ∧ ab_ri h 28 1 ≤ ab_ri h 28 2 ∧ ab_ri h 28 2 ≤ ab_ri h 28 1 + 1) ∧ ab_gc h 554 (ab_ri h 542 14).toNat ≤ 3 ∧
  ∀ w : Nat, ab_rd h 28 4 = some (.ref w) → ab_ri h 28 6 ≤ ab_ri h w (-1) ∧ ab_ri h 28 7 ≤ ab_ri h w (-1)
/-- places that it speaks of: kind, number -/
def ab_pt (κ : Nat) (i : Int) : Bool := (Nat.beq κ 30 && (decide (i = 1) || (decide (i = 2) || decide (i = 4)))) || ((Nat.beq κ 33 || Nat.beq κ 64) && decide (0 ≤ i) || Nat.beq κ 52 && decide (i = 14))
/-- and of which it tells no more than a bound -/
def ab_pq (κ : Nat) (i : Int) : Bool := Nat.beq κ 30 && (decide (i = 6) || decide (i = 7))
theorem ab_ri_of {h h' : ax_H} {k : Nat} {i : Int} (e : ab_rd h' k i = ab_rd h k i) : ab_ri h' k i = ab_ri h k i := by unfold ab_ri; rw [e]
theorem ab_gc_of {h h' : ax_H} {k : Nat} : ∀ m : Nat, (∀ i : Nat, i < m → ab_rd h' k i = ab_rd h k i) → ab_gc h' k m = ab_gc h k m
  | 0, _ => rfl
  | m + 1, e => by rw [ab_gc, ab_gc, ab_gc_of m (fun i hi => e i (by omega)), ab_ri_of (e m (by omega))]
theorem ab_J_keep {h h' : ax_H} (h1 : ∀ k i, ab_pt (ab_k k) i = true → ab_rd h' k i = ab_rd h k i) (h2 : ∀ k i, i < 0 → ab_rd h' k i = ab_rd h k i)
    (h3 : ∀ w : Nat, ab_rd h 28 4 = some (.ref w) → (ab_ri h' 28 6 ≤ ab_ri h 28 6 ∨ ab_ri h' 28 6 ≤ ab_ri h 28 7 ∨ ab_ri h' 28 6 ≤ ab_ri h w (-1)) ∧ (ab_ri h' 28 7 ≤ ab_ri h 28 7 ∨ ab_ri h' 28 7 ≤ ab_ri h 28 6 ∨ ab_ri h' 28 7 ≤ ab_ri h w (-1))) (hJ : ab_J h) : ab_J h' := by
  obtain ⟨⟨j1, j2, j3⟩, j4, j5⟩ := hJ
  have e1 : ab_ri h' 28 1 = ab_ri h 28 1 := ab_ri_of (h1 28 1 rfl)
  have e2 : ab_ri h' 28 2 = ab_ri h 28 2 := ab_ri_of (h1 28 2 rfl)
  have e3 : ab_ri h' 542 14 = ab_ri h 542 14 := ab_ri_of (h1 542 14 rfl)
  refine ⟨⟨?_, by omega, by omega⟩, ?_, fun w hw => ?_⟩
  · rw [e1, ab_gc_of _ (fun i _ => h1 29 i (by show (false || ((true || _) && decide (0 ≤ (i : Int)) || _)) = true; simp))]
    exact j1
  · rw [e3, ab_gc_of _ (fun i _ => h1 554 i (by show (false || ((_ || true) && decide (0 ≤ (i : Int)) || _)) = true; simp))]
    exact j4
  · rw [h1 28 4 rfl] at hw
    have e4 : ab_ri h' w (-1) = ab_ri h w (-1) := ab_ri_of (h2 w (-1) (by decide))
    have := j5 w hw
    obtain ⟨a, b⟩ := h3 w hw
    rw [e4]
    constructor <;> omega
