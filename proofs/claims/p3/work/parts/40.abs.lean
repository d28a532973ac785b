/-! ===== abstract states: symbols with types, differences between them, what cells were read to hold ===== -/
/-- a symbolic value: a known int, a symbol, a known cell, a static array -/
abbrev ab_V : Type := Int ⊕ (Nat ⊕ (Nat ⊕ Nat))
def ab_rng (c : Int) : Bool := decide (-2147483648 ≤ c) && decide (c ≤ 2147483647)
theorem ab_rng_ok {c : Int} (h : ab_rng c = true) : (Int32.ofInt c).toInt = c := by
  simp only [ab_rng, Bool.and_eq_true, decide_eq_true_eq] at h
  exact Int32.toInt_ofInt_of_le (by omega) (by omega)
theorem ab_rng_iff {c : Int} : ab_rng c = true ↔ -2147483648 ≤ c ∧ c ≤ 2147483647 := by
  simp only [ab_rng, Bool.and_eq_true, decide_eq_true_eq]
theorem ab_bm {x : Int} (h1 : -2147483648 ≤ x) (h2 : x ≤ 2147483647) : x.bmod (2 ^ 32) = x := Int.bmod_eq_of_le (by omega) (by omega)
/-- flags: 1 the bits 8 to 11 are 13 at most, 2 the lowest four are, 3 a sign's letter -/
def ab_fl (f : Nat) (x : Int) : Prop := match f with
  | 1 => 0 ≤ x → x / 256 % 16 ≤ 13
  | 2 => 0 ≤ x → x % 16 ≤ 13
  | 3 => x ∈ ([73, 86, 88, 76, 67, 68, 77, 105, 118, 120, 108, 99, 100, 109] : List Int)
  | _ => True
def ab_ok (n : Nat) (v : Value) : ab_Y → Prop
  | .inl (lo, hi, f) => ∃ x : Int32, v = .int x ∧ lo ≤ x.toInt ∧ x.toInt ≤ hi ∧ ab_fl f x.toInt
  | .inr none => ∃ x : Int64, v = .long x
  | .inr (some M) => ∃ k : Nat, v = .ref k ∧ k < n ∧ M.testBit (ab_k k) = true
theorem ab_ok_mono {n n' : Nat} (hn : n ≤ n') {v : Value} {t : ab_Y} (h : ab_ok n v t) : ab_ok n' v t := by
  rcases t with ⟨lo, hi, f⟩ | (_ | M)
  · exact h
  · exact h
  · obtain ⟨k, h1, h2, h3⟩ := h
    exact ⟨k, h1, Nat.lt_of_lt_of_le h2 hn, h3⟩
/-- a cell is as its kind says -/
def ab_cf (n : Nat) (S : ab_P) (d : ax_D) : Prop := match S, d with
  | .inl (t, N1, N2, τ, σ), .inl (t', N, .inl f) => t' = t ∧ t < 2 ∧ N1 ≤ N ∧ N ≤ N2 ∧ N2 < 2147483648 ∧ ∀ i, i < N → ab_ok n (.int (ax_fi f i)) τ ∧ ab_ok n (.int (ax_fi f i)) (σ.getD i τ)
  | .inl (t, N1, N2, τ, σ), .inl (t', N, .inr f) => t' = t ∧ 2 ≤ t ∧ σ = [] ∧ N1 ≤ N ∧ N ≤ N2 ∧ N2 < 2147483648 ∧ ∀ i, i < N → ∃ k, ax_fr f i = some k ∧ ab_ok n (.ref k) τ
  | .inr (ci, τs), .inr (ci', fs) => ci' = ci ∧ fs.length = τs.length ∧ ∀ (j : Nat) (v : Value), fs[j]? = some v → ∃ τ, τs[j]? = some τ ∧ ab_ok n v τ
  | _, _ => False
/-- the lists of cells are so long that the next one comes to its place -/
def ab_sh (h : ax_H) (n : Nat) : Prop := (h.getD (n / 32) []).length = n % 32 ∧ n / 32 ≤ h.length ∧ h.length ≤ n / 32 + 1
/-- all cells are as their kinds say -/
def ab_HT (h : ax_H) (n : Nat) : Prop := 573 ≤ n ∧ (∀ k, k < n → ∃ d S, ax_raw h k = some d ∧ ab_K[ab_k k]? = some S ∧ ab_cf n S d) ∧ (ab_J h ∧ ab_sh h n)
/-- locals, stack, types of symbols, differences, what was read, what all first elements are, new cells, new slots -/
abbrev ab_S : Type := List (Nat × ab_V) × List ab_V × List ab_Y × List (Nat × Nat × Int) × List (ab_V × ab_V × ab_V) × List (ab_V × ab_V × ab_Y) × Nat × Nat
def ab_cv (V : List Value) : ab_V → Option Value
  | .inl c => bif ab_rng c then some (.int (Int32.ofInt c)) else none
  | .inr (.inl u) => V[u]?
  | .inr (.inr (.inl k)) => some (.ref k)
  | .inr (.inr (.inr j)) => some (.retAddr j)
theorem ab_cv_app {V : List Value} (W : List Value) {a : ab_V} {v : Value} (h : ab_cv V a = some v) : ab_cv (V ++ W) a = some v := by
  rcases a with c | (u | (k | j))
  · exact h
  · have hl := (List.getElem?_eq_some_iff.mp (show V[u]? = some v from h)).1
    show (V ++ W)[u]? = some v
    rw [List.getElem?_append_left hl]; exact h
  · exact h
  · exact h
def ab_lk (L : List (Nat × ab_V)) (k : Nat) : Option ab_V := (L.find? fun q => Nat.beq q.1 k).map (·.2)
/-- what is told of locals: by looking up -/
def ab_lvR (V : List Value) (L : List (Nat × ab_V)) (lv : List (Nat × Value)) : Prop := ∀ (k : Nat) (a : ab_V), ab_lk L k = some a → ∃ v, ax_look lv k = some v ∧ ab_cv V a = some v
def ab_stR (V : List Value) : List ab_V → List Value → Prop
  | [], [] => True
  | a :: L, v :: st => ab_cv V a = some v ∧ ab_stR V L st
  | _, _ => False
theorem ab_lvR_app {V : List Value} (W : List Value) {L : List (Nat × ab_V)} {lv : List (Nat × Value)} (h : ab_lvR V L lv) : ab_lvR (V ++ W) L lv := fun k a hk => by
  obtain ⟨v, h1, h2⟩ := h k a hk
  exact ⟨v, h1, ab_cv_app W h2⟩
theorem ab_stR_app {V : List Value} (W : List Value) : ∀ {L : List ab_V} {st : List Value}, ab_stR V L st → ab_stR (V ++ W) L st
  | [], [], _ => trivial
  | a :: L, v :: st, h => ⟨ab_cv_app W h.1, ab_stR_app W h.2⟩
  | [], _ :: _, h => h.elim
  | _ :: _, [], h => h.elim
def ab_ty (n : Nat) (V : List Value) (Γ : List ab_Y) : Prop := V.length = Γ.length ∧ ∀ (u : Nat) (τ : ab_Y), Γ[u]? = some τ → ∃ v, V[u]? = some v ∧ ab_ok n v τ
def ab_co (V : List Value) (C : List (Nat × Nat × Int)) : Prop := ∀ q ∈ C, ∃ x y : Int32, V[q.1]? = some (.int x) ∧ V[q.2.1]? = some (.int y) ∧ x.toInt - y.toInt ≤ q.2.2
/-- a place's content, or a sum -/
def ab_ca1 (V : List Value) (h : ax_H) (q : ab_V × ab_V × ab_V) : Prop := (∃ (k : Nat) (x : Int32) (w : Value), ab_cv V q.1 = some (.ref k) ∧ ab_cv V q.2.1 = some (.int x) ∧ ab_cv V q.2.2 = some w ∧ ab_rd h k x.toInt = some w) ∨
  ∃ x y z : Int32, ab_cv V q.1 = some (.int x) ∧ ab_cv V q.2.1 = some (.int y) ∧ ab_cv V q.2.2 = some (.int z) ∧ z.toInt = x.toInt + y.toInt
def ab_ca (V : List Value) (h : ax_H) (F : List (ab_V × ab_V × ab_V)) : Prop := ∀ q ∈ F, ab_ca1 V h q
def ab_sg (n : Nat) (V : List Value) (h : ax_H) (Z : List (ab_V × ab_V × ab_Y)) : Prop := ∀ q ∈ Z, ∃ (k : Nat) (b : Int32), ab_cv V q.1 = some (.ref k) ∧ ab_cv V q.2.1 = some (.int b) ∧ ∀ i : Int, 0 ≤ i → i < b.toInt → ∃ w, ab_rd h k i = some w ∧ ab_ok n w q.2.2
/-- what a method may change: kinds (bits), a field's number, or all elements (-2) -/
def ab_md (M : List (Nat × Int)) (κ : Nat) (i : Int) : Bool := M.any fun q => Nat.testBit q.1 κ && (decide (q.2 = i) || decide (q.2 = -2) && decide (0 ≤ i))
def ab_fr (M : List (Nat × Int)) (n0 : Nat) (h0 h : ax_H) : Prop := ∀ k, k < n0 → ∀ i, ab_md M (ab_k k) i = false → ab_rd h k i = ab_rd h0 k i
/-- what a method was called with, the cells then, what it may change -/
abbrev ab_E : Type := List Value × ax_H × Nat × List (Nat × Int)
def ab_hp (E : ab_E) (h : ax_H) (n : Nat) : Prop := ab_HT h n ∧ ab_fr E.2.2.2 E.2.2.1 E.2.1 h ∧ E.2.2.1 ≤ n
def ab_g (E : ab_E) (S : ab_S) (V : List Value) (lv : List (Nat × Value)) (st : List Value) (h : ax_H) (n cs ss : Nat) : Prop :=
  ab_lvR V S.1 lv ∧ ab_stR V S.2.1 st ∧ ab_ty n V S.2.2.1 ∧ ab_co V S.2.2.2.1 ∧ ab_ca V h S.2.2.2.2.1 ∧ ab_sg n V h S.2.2.2.2.2.1 ∧ (cs = S.2.2.2.2.2.2.1 ∧ ss = S.2.2.2.2.2.2.2) ∧ ab_hp E h n ∧ ∀ (u : Nat) (v : Value), E.1[u]? = some v → V[u]? = some v
theorem ab_ty_app {n : Nat} {V : List Value} {Γ : List ab_Y} {w : Value} {τ : ab_Y} (h : ab_ty n V Γ) (hw : ab_ok n w τ) : ab_ty n (V ++ [w]) (Γ ++ [τ]) := by
  refine ⟨by simp [h.1], fun u σ hu => ?_⟩
  by_cases hl : u < Γ.length
  · rw [List.getElem?_append_left hl] at hu
    obtain ⟨v, h1, h2⟩ := h.2 u σ hu
    exact ⟨v, by rw [List.getElem?_append_left (by rw [h.1]; exact hl)]; exact h1, h2⟩
  · rw [List.getElem?_append_right (by omega)] at hu
    have hz : u - Γ.length < 1 := (List.getElem?_eq_some_iff.mp hu).1
    have hz0 : u - Γ.length = 0 := by omega
    rw [hz0] at hu
    obtain rfl : τ = σ := Option.some.inj hu
    refine ⟨w, ?_, hw⟩
    rw [List.getElem?_append_right (by rw [h.1]; omega), h.1, hz0]; rfl
theorem ab_co_app {V : List Value} (W : List Value) {C : List (Nat × Nat × Int)} (h : ab_co V C) : ab_co (V ++ W) C := fun q hq => by
  obtain ⟨x, y, h1, h2, h3⟩ := h q hq
  exact ⟨x, y, ab_cv_app (a := .inr (.inl q.1)) W h1, ab_cv_app (a := .inr (.inl q.2.1)) W h2, h3⟩
theorem ab_ca_app {V : List Value} (W : List Value) {h : ax_H} {F : List (ab_V × ab_V × ab_V)} (hF : ab_ca V h F) : ab_ca (V ++ W) h F := fun q hq => by
  rcases hF q hq with ⟨k, x, w, h1, h2, h3, h4⟩ | ⟨x, y, z, h1, h2, h3, h4⟩
  · exact Or.inl ⟨k, x, w, ab_cv_app W h1, ab_cv_app W h2, ab_cv_app W h3, h4⟩
  · exact Or.inr ⟨x, y, z, ab_cv_app W h1, ab_cv_app W h2, ab_cv_app W h3, h4⟩
theorem ab_sg_app {n : Nat} {V : List Value} (W : List Value) {h : ax_H} {Z : List (ab_V × ab_V × ab_Y)} (hZ : ab_sg n V h Z) : ab_sg n (V ++ W) h Z := fun q hq => by
  obtain ⟨k, b, h1, h2, h3⟩ := hZ q hq
  exact ⟨k, b, ab_cv_app W h1, ab_cv_app W h2, h3⟩
theorem ab_co_two {V : List Value} {C D : List (Nat × Nat × Int)} (h1 : ab_co V C) (h2 : ab_co V D) : ab_co V (C ++ D) := fun q hq => (List.mem_append.mp hq).elim (h1 q) (h2 q)
theorem ab_new (V : List Value) (w : Value) : (V ++ [w])[V.length]? = some w := by rw [List.getElem?_append_right (Nat.le_refl _), Nat.sub_self]; rfl
/-- what a step answers: a value that there is, or a symbol more, with its type and differences -/
abbrev ab_R : Type := ab_V ⊕ (ab_Y × List (Nat × Nat × Int))
def ab_den (n : Nat) (V : List Value) (r : ab_R) (w : Value) : Prop := match r with
  | .inl v => ab_cv V v = some w
  | .inr (τ, C) => ab_ok n w τ ∧ ab_co (V ++ [w]) C
/-- the answer on the stack -/
def ab_put (S : ab_S) (st : List ab_V) (r : ab_R) : ab_S := match r with
  | .inl v => (S.1, v :: st, S.2.2)
  | .inr (τ, C) => (S.1, .inr (.inl S.2.2.1.length) :: st, S.2.2.1 ++ [τ], C ++ S.2.2.2.1, S.2.2.2.2)
/-- one valuation goes on another -/
def ab_ext (V V' : List Value) : Prop := ∀ (u : Nat) (v : Value), V[u]? = some v → V'[u]? = some v
theorem ab_ext_refl (V : List Value) : ab_ext V V := fun _ _ h => h
theorem ab_ext_app (V W : List Value) : ab_ext V (V ++ W) := fun u _ h => ab_cv_app (a := .inr (.inl u)) W h
theorem ab_ext_cv {V V' : List Value} (hx : ab_ext V V') {a : ab_V} {v : Value} (h : ab_cv V a = some v) : ab_cv V' a = some v := by
  rcases a with c | (u | (k | j))
  · exact h
  · exact hx u v h
  · exact h
  · exact h
theorem ab_put_ext {E : ab_E} {S : ab_S} {V : List Value} {lv : List (Nat × Value)} {st0 st1 : List Value} {st : List ab_V} {h : ax_H} {n cs ss : Nat} {r : ab_R} {w : Value} (hg : ab_g E S V lv st0 h n cs ss) (hst : ab_stR V st st1) (hr : ab_den n V r w) :
    ∃ V', ab_ext V V' ∧ ab_g E (ab_put S st r) V' lv (w :: st1) h n cs ss := by
  obtain ⟨g1, g2, g3, g4, g5, g6, g7, g8, g9⟩ := hg
  rcases r with v | ⟨τ, C⟩
  · exact ⟨V, ab_ext_refl V, g1, ⟨hr, hst⟩, g3, g4, g5, g6, g7, g8, g9⟩
  · refine ⟨V ++ [w], ab_ext_app V [w], ab_lvR_app _ g1, ⟨?_, ab_stR_app _ hst⟩, ab_ty_app g3 hr.1, ab_co_two hr.2 (ab_co_app _ g4), ab_ca_app _ g5, ab_sg_app _ g6, g7, g8, fun u v hu => ab_cv_app (a := .inr (.inl u)) _ (g9 u v hu)⟩
    show (V ++ [w])[S.2.2.1.length]? = some w
    rw [← g3.1]; exact ab_new V w
theorem ab_put_ok {E : ab_E} {S : ab_S} {V : List Value} {lv : List (Nat × Value)} {st0 st1 : List Value} {st : List ab_V} {h : ax_H} {n cs ss : Nat} {r : ab_R} {w : Value} (hg : ab_g E S V lv st0 h n cs ss) (hst : ab_stR V st st1) (hr : ab_den n V r w) :
    ∃ V', ab_g E (ab_put S st r) V' lv (w :: st1) h n cs ss := by
  obtain ⟨V', -, h⟩ := ab_put_ext hg hst hr
  exact ⟨V', h⟩
/-- bounds of a value -/
def ab_iv (Γ : List ab_Y) : ab_V → Option (Int × Int)
  | .inl c => bif ab_rng c then some (c, c) else none
  | .inr (.inl u) => match Γ[u]? with
    | some (.inl (lo, hi, _)) => some (lo, hi)
    | _ => none
  | _ => none
theorem ab_iv_ok {n : Nat} {V : List Value} {Γ : List ab_Y} (hΓ : ab_ty n V Γ) {a : ab_V} {b : Int × Int} (h : ab_iv Γ a = some b) {v : Value} (hv : ab_cv V a = some v) : ∃ x : Int32, v = .int x ∧ b.1 ≤ x.toInt ∧ x.toInt ≤ b.2 := by
  rcases a with c | (u | (k | j))
  · simp only [ab_iv, ab_cv] at h hv
    cases e : ab_rng c with
    | false => rw [e] at h; cases h
    | true =>
      rw [e] at h hv
      cases h
      cases hv
      exact ⟨_, rfl, by rw [ab_rng_ok e]; exact ⟨Int.le_refl _, Int.le_refl _⟩⟩
  · simp only [ab_iv] at h
    split at h
    · rename_i lo hi f hu
      cases h
      obtain ⟨w, h1, x, h2, h3, h4, -⟩ := hΓ.2 u _ hu
      have : w = v := Option.some.inj (h1.symm.trans hv)
      subst this
      exact ⟨x, h2, h3, h4⟩
    · cases h
  · cases h
  · cases h
/-- two values are the same -/
def ab_veq : ab_V → ab_V → Bool
  | .inl c, .inl d => decide (c = d)
  | .inr (.inl u), .inr (.inl w) => Nat.beq u w
  | .inr (.inr (.inl u)), .inr (.inr (.inl w)) => Nat.beq u w
  | .inr (.inr (.inr u)), .inr (.inr (.inr w)) => Nat.beq u w
  | _, _ => false
theorem ab_veq_ok {a b : ab_V} (h : ab_veq a b = true) : a = b := by
  rcases a with c | (u | (k | j)) <;> rcases b with c' | (u' | (k' | j')) <;> simp only [ab_veq, decide_eq_true_eq, Nat.beq_eq, Bool.false_eq_true] at h <;> first | exact h.elim | (subst h; rfl)
/-- an upper bound of a difference from a value whose least is told -/
def ab_ubn (Γ : List ab_Y) (C : List (Nat × Nat × Int)) (b : ab_V) (q : Int) : Nat → ab_V → Option Int
  | 0, a => bif ab_veq a b then some 0 else (ab_iv Γ a).map fun p => p.2 - q
  | f + 1, a => bif ab_veq a b then some 0 else match a with
    | .inr (.inl u) => match ab_iv Γ a with
      | some p => some (C.foldl (fun m e => bif Nat.beq e.1 u then (match ab_ubn Γ C b q f (.inr (.inl e.2.1)) with
          | some d => min m (e.2.2 + d)
          | none => m) else m) (p.2 - q))
      | none => none
    | _ => (ab_iv Γ a).map fun p => p.2 - q
/-- an upper bound of a difference -/
def ab_ub (Γ : List ab_Y) (C : List (Nat × Nat × Int)) (f : Nat) (a b : ab_V) : Option Int := match ab_iv Γ b with
  | some q => ab_ubn Γ C b q.1 f a
  | none => none
theorem ab_fold {α : Type} {f : Int → α → Int} {t : Int} (hf : ∀ m q, t ≤ m → t ≤ f m q) : ∀ (L : List α) (m : Int), t ≤ m → t ≤ L.foldl f m
  | [], m, h => h
  | q :: L, m, h => ab_fold hf L (f m q) (hf m q h)
theorem ab_foldM {α : Type} {P : α → Prop} {f : Int → α → Int} {t : Int} (hf : ∀ m q, P q → t ≤ m → t ≤ f m q) : ∀ (L : List α), (∀ q ∈ L, P q) → ∀ (m : Int), t ≤ m → t ≤ L.foldl f m
  | [], _, m, h => h
  | q :: L, hL, m, h => ab_foldM hf L (fun r hr => hL r (List.mem_cons_of_mem _ hr)) (f m q) (hf m q (hL q List.mem_cons_self) h)
theorem ab_ubn_ok {n : Nat} {V : List Value} {Γ : List ab_Y} {C : List (Nat × Nat × Int)} (hΓ : ab_ty n V Γ) (hC : ab_co V C) {b : ab_V} {q : Int} {y : Int32} (hy : ab_cv V b = some (.int y)) (hq : q ≤ y.toInt) : ∀ (f : Nat) (a : ab_V) (d : Int), ab_ubn Γ C b q f a = some d → ∀ x : Int32, ab_cv V a = some (.int x) → x.toInt - y.toInt ≤ d := by
  have hsame : ∀ (a : ab_V) (x : Int32), ab_veq a b = true → ab_cv V a = some (.int x) → x.toInt - y.toInt ≤ 0 := by
    intro a x e hx
    rw [ab_veq_ok e, hy] at hx
    cases hx
    omega
  have hiv : ∀ (a : ab_V) (d : Int), (ab_iv Γ a).map (fun p => p.2 - q) = some d → ∀ x : Int32, ab_cv V a = some (.int x) → x.toInt - y.toInt ≤ d := by
    intro a d h x hx
    obtain ⟨p, hp, rfl⟩ := Option.map_eq_some_iff.mp h
    obtain ⟨x', e1, -, h2⟩ := ab_iv_ok hΓ hp hx
    cases e1
    omega
  intro f
  induction f with
  | zero =>
    intro a d h x hx
    unfold ab_ubn at h
    cases e : ab_veq a b with
    | true => rw [e] at h; cases h; exact hsame a x e hx
    | false => rw [e] at h; exact hiv a d h x hx
  | succ f ih =>
    intro a d h x hx
    unfold ab_ubn at h
    cases e : ab_veq a b with
    | true => rw [e] at h; cases h; exact hsame a x e hx
    | false =>
      rw [e] at h
      simp only [cond_false] at h
      split at h
      · rename_i u
        split at h
        · rename_i p hp
          obtain rfl := Option.some.inj h
          refine ab_foldM (P := fun e => e ∈ C) (fun m e he hm => ?_) C (fun e he => he) _ (hiv _ _ (by rw [hp]; rfl) x hx)
          obtain ⟨x1, y1, e1, e2, e3⟩ := hC e he
          cases eu : Nat.beq e.1 u with
          | false => exact hm
          | true =>
            have eu' : e.1 = u := by simpa [Nat.beq_eq] using eu
            have hx1 : x1 = x := by
              rw [eu'] at e1
              have := e1.symm.trans hx
              cases this; rfl
            subst hx1
            simp only [cond_true]
            split
            · rename_i d' hd'
              have := ih _ _ hd' y1 e2
              omega
            · exact hm
        · cases h
      · exact hiv _ d h x hx
theorem ab_ub_ok {n : Nat} {V : List Value} {Γ : List ab_Y} {C : List (Nat × Nat × Int)} (hΓ : ab_ty n V Γ) (hC : ab_co V C) (f : Nat) (a b : ab_V) (d : Int) (h : ab_ub Γ C f a b = some d) (x y : Int32) (hx : ab_cv V a = some (.int x)) (hy : ab_cv V b = some (.int y)) : x.toInt - y.toInt ≤ d := by
  unfold ab_ub at h
  split at h
  · rename_i q hq
    obtain ⟨y', e2, h3, -⟩ := ab_iv_ok hΓ hq hy
    cases e2
    exact ab_ubn_ok hΓ hC hy h3 f a d h x hx
  · cases h
/-- a difference is at most so much -/
def ab_leq (Γ : List ab_Y) (C : List (Nat × Nat × Int)) (f : Nat) (a b : ab_V) (c : Int) : Bool := match ab_ub Γ C f a b with
  | some d => decide (d ≤ c)
  | none => false
theorem ab_leq_ok {n : Nat} {V : List Value} {Γ : List ab_Y} {C : List (Nat × Nat × Int)} (hΓ : ab_ty n V Γ) (hC : ab_co V C) {f : Nat} {a b : ab_V} {c : Int} (h : ab_leq Γ C f a b c = true) {x y : Int32} (hx : ab_cv V a = some (.int x)) (hy : ab_cv V b = some (.int y)) : x.toInt - y.toInt ≤ c := by
  unfold ab_leq at h
  split at h
  · rename_i d hd
    exact Int.le_trans (ab_ub_ok hΓ hC f a b d hd x y hx hy) (of_decide_eq_true h)
  · cases h
