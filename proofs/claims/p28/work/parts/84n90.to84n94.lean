section
/-! ===== a custom's automaton and the reference's test of some signs, as functions (by hand) ===== -/
/-- what a custom holds: counts; taken once; taken twice -/
abbrev df_K := (Nat → Nat) × (Nat → Nat → Bool) × (Nat → Nat → Bool)
/-- below, standing, sign, open -/
abbrev df_T := Nat × Nat × Nat × Nat
def df_st (b t s : Nat) : Nat := if s + 1 = b then t else 0
def df_hd (K : df_K) (b s o : Nat) : Bool := (List.range b).any fun y => (o == 1 && K.2.1 s y) || K.2.2 s y
def df_lv (K : df_K) (b t s o : Nat) : Option df_T := if b ≤ s then none else if df_hd K b s o = true ∨ df_st b t s + o ≤ K.1 s then some (b, t, s, o) else none
def df_cl (K : df_K) (b t s m : Nat) : Option df_T := if df_st b t s + m ≤ K.1 s then some (s + 1, df_st b t s + m, 0, 0) else none
def df_ta (K : df_K) (s o x : Nat) : Bool := if o = 1 then K.2.1 s x else K.2.2 s x
def df_af (K : df_K) (S : df_T) (x : Nat) : Option df_T :=
  if S.2.2.2 = 0 then df_lv K S.1 S.2.1 x 1
  else if S.2.2.1 < x then (if df_ta K S.2.2.1 S.2.2.2 x = true ∧ x < S.1 then some (S.2.2.1, 0, 0, 0) else none)
  else if x = S.2.2.1 then (if S.2.2.2 = 1 then df_lv K S.1 S.2.1 x 2 else df_cl K S.1 S.2.1 x 3)
  else (df_cl K S.1 S.2.1 S.2.2.1 S.2.2.2).bind fun C => df_lv K C.1 C.2.1 x 1
def df_wh (K : df_K) (S : df_T) : Prop := S.2.2.2 = 0 ∨ df_st S.1 S.2.1 S.2.2.1 + S.2.2.2 ≤ K.1 S.2.2.1
def df_rn (K : df_K) (f : Nat → Nat) : Nat → Option df_T
  | 0 => some (14, 0, 0, 0)
  | j + 1 => (df_rn K f j).bind fun S => df_af K S (f j)
/-- heads are of greater signs -/
def df_G (K : df_K) : Prop := (∀ x y, K.2.1 x y = true → x < y ∧ y < 14) ∧ ∀ x y, K.2.2 x y = true → x < y ∧ y < 14
/-- what a state is when its open signs are closed as plain ones -/
def df_co (K : df_K) (S : df_T) : Option (Nat × Nat) := if S.2.2.2 = 0 then some (S.1, S.2.1) else (df_cl K S.1 S.2.1 S.2.2.1 S.2.2.2).map fun C => (C.1, C.2.1)
/-- the state behind r like signs x, from a closed one -/
def df_rs (K : df_K) (b t x r : Nat) : Option df_T :=
  if b ≤ x then none
  else if r = 1 then (if df_hd K b x 1 = true ∨ 1 ≤ K.1 x then some (b, t, x, 1) else none)
  else if r = 2 then (if df_hd K b x 2 = true ∨ 2 ≤ K.1 x then some (b, t, x, 2) else none)
  else if r ≤ K.1 x then some (x + 1, 3 * (r / 3), (if r % 3 = 0 then 0 else x), r % 3) else none
theorem df_hd_iff {K : df_K} {b s o : Nat} : df_hd K b s o = true ↔ ∃ y, y < b ∧ (o = 1 ∧ K.2.1 s y = true ∨ K.2.2 s y = true) := by
  unfold df_hd
  rw [List.any_eq_true]
  constructor
  · rintro ⟨y, hy, h⟩
    rw [Bool.or_eq_true, Bool.and_eq_true, beq_iff_eq] at h
    exact ⟨y, List.mem_range.mp hy, h⟩
  · rintro ⟨y, hy, h⟩
    exact ⟨y, List.mem_range.mpr hy, by rw [Bool.or_eq_true, Bool.and_eq_true, beq_iff_eq]; exact h⟩
theorem df_hd21 {K : df_K} {b s : Nat} (h : df_hd K b s 2 = true) : df_hd K b s 1 = true := by
  obtain ⟨y, hy, h⟩ := df_hd_iff.mp h
  exact df_hd_iff.mpr ⟨y, hy, h.elim (fun q => absurd q.1 (by decide)) Or.inr⟩
theorem df_hd0 {K : df_K} (G : df_G K) {s o : Nat} : ¬ df_hd K (s + 1) s o = true := by
  intro h
  obtain ⟨y, hy, h⟩ := df_hd_iff.mp h
  rcases h with ⟨-, h⟩ | h
  · have := (G.1 s y h).1
    omega
  · have := (G.2 s y h).1
    omega
theorem df_st1 (x t : Nat) : df_st (x + 1) t x = t := by
  unfold df_st
  rw [if_pos rfl]
theorem df_rs_d {K : df_K} {b t x r : Nat} (hb : b ≤ x) : df_rs K b t x r = none := by
  unfold df_rs
  rw [if_pos hb]
theorem df_rs_1 {K : df_K} {b t x : Nat} (hb : ¬ b ≤ x) : df_rs K b t x 1 = if df_hd K b x 1 = true ∨ 1 ≤ K.1 x then some (b, t, x, 1) else none := by
  unfold df_rs
  rw [if_neg hb, if_pos rfl]
theorem df_rs_2 {K : df_K} {b t x : Nat} (hb : ¬ b ≤ x) : df_rs K b t x 2 = if df_hd K b x 2 = true ∨ 2 ≤ K.1 x then some (b, t, x, 2) else none := by
  unfold df_rs
  rw [if_neg hb, if_neg (by decide : ¬ (2 : Nat) = 1), if_pos rfl]
theorem df_rs_3 {K : df_K} {b t x r : Nat} (hb : ¬ b ≤ x) (h1 : ¬ r = 1) (h2 : ¬ r = 2) : df_rs K b t x r = if r ≤ K.1 x then some (x + 1, 3 * (r / 3), (if r % 3 = 0 then 0 else x), r % 3) else none := by
  unfold df_rs
  rw [if_neg hb, if_neg h1, if_neg h2]
/-- one sign more of a run -/
theorem df_rs1 {K : df_K} (G : df_G K) {b t x r : Nat} (hr : 1 ≤ r) (hs : df_st b t x = 0) : (df_rs K b t x r).bind (fun S => df_af K S x) = df_rs K b t x (r + 1) := by
  by_cases hb : b ≤ x
  · rw [df_rs_d hb, df_rs_d hb]
    rfl
  by_cases h1 : r = 1
  · subst h1
    rw [df_rs_1 hb, show 1 + 1 = 2 from rfl, df_rs_2 hb]
    by_cases q : df_hd K b x 1 = true ∨ 1 ≤ K.1 x
    · rw [if_pos q]
      show df_af K (b, t, x, 1) x = _
      unfold df_af
      rw [if_neg (by decide : ¬ (1 : Nat) = 0), if_neg (Nat.lt_irrefl x), if_pos rfl, if_pos rfl]
      show df_lv K b t x 2 = _
      unfold df_lv
      rw [if_neg hb, hs, Nat.zero_add]
    · rw [if_neg q, if_neg (fun z => q (z.elim (fun u => Or.inl (df_hd21 u)) (fun u => Or.inr (by omega))))]
      rfl
  by_cases h2 : r = 2
  · subst h2
    rw [df_rs_2 hb, df_rs_3 hb (by decide : ¬ 2 + 1 = 1) (by decide : ¬ 2 + 1 = 2)]
    by_cases q : df_hd K b x 2 = true ∨ 2 ≤ K.1 x
    · rw [if_pos q]
      show df_af K (b, t, x, 2) x = _
      unfold df_af
      rw [if_neg (by decide : ¬ (2 : Nat) = 0), if_neg (Nat.lt_irrefl x), if_pos rfl, if_neg (by decide : ¬ (2 : Nat) = 1)]
      show df_cl K b t x 3 = _
      unfold df_cl
      rw [hs, Nat.zero_add]
      rfl
    · rw [if_neg q, if_neg (fun z => q (Or.inr (by omega)))]
      rfl
  · rw [df_rs_3 hb h1 h2, df_rs_3 hb (by omega : ¬ r + 1 = 1) (by omega : ¬ r + 1 = 2)]
    by_cases q : r ≤ K.1 x
    · rw [if_pos q]
      show df_af K (x + 1, 3 * (r / 3), (if r % 3 = 0 then 0 else x), r % 3) x = _
      have h3 : r % 3 = 0 ∨ r % 3 = 1 ∨ r % 3 = 2 := by omega
      rcases h3 with e | e | e
      · have e1 : (r + 1) % 3 = 1 := by omega
        have e2 : (r + 1) / 3 = r / 3 := by omega
        rw [e, e1, e2]
        unfold df_af
        rw [if_pos rfl]
        show df_lv K (x + 1) (3 * (r / 3)) x 1 = _
        unfold df_lv
        rw [if_neg (by omega), df_st1, if_neg (by decide : ¬ (1 : Nat) = 0)]
        by_cases u : r + 1 ≤ K.1 x
        · rw [if_pos u, if_pos (Or.inr (by omega))]
        · rw [if_neg u, if_neg (fun z => z.elim (df_hd0 G) (fun v => u (by omega)))]
      · have e1 : (r + 1) % 3 = 2 := by omega
        have e2 : (r + 1) / 3 = r / 3 := by omega
        rw [e, e1, e2, if_neg (by decide : ¬ (1 : Nat) = 0), if_neg (by decide : ¬ (2 : Nat) = 0)]
        unfold df_af
        rw [if_neg (by decide : ¬ (1 : Nat) = 0), if_neg (Nat.lt_irrefl x), if_pos rfl, if_pos rfl]
        show df_lv K (x + 1) (3 * (r / 3)) x 2 = _
        unfold df_lv
        rw [if_neg (by omega), df_st1]
        by_cases u : r + 1 ≤ K.1 x
        · rw [if_pos u, if_pos (Or.inr (by omega))]
        · rw [if_neg u, if_neg (fun z => z.elim (df_hd0 G) (fun v => u (by omega)))]
      · have e1 : (r + 1) % 3 = 0 := by omega
        have e2 : 3 * ((r + 1) / 3) = 3 * (r / 3) + 3 := by omega
        rw [e, e1, e2, if_neg (by decide : ¬ (2 : Nat) = 0), if_pos rfl]
        unfold df_af
        rw [if_neg (by decide : ¬ (2 : Nat) = 0), if_neg (Nat.lt_irrefl x), if_pos rfl, if_neg (by decide : ¬ (2 : Nat) = 1)]
        show df_cl K (x + 1) (3 * (r / 3)) x 3 = _
        unfold df_cl
        rw [df_st1]
        by_cases u : r + 1 ≤ K.1 x
        · rw [if_pos u, if_pos (by omega)]
        · rw [if_neg u, if_neg (fun v => u (by omega))]
    · rw [if_neg q, if_neg (by omega)]
      rfl
/-- the first sign of a run, behind what is closed as plain -/
theorem df_rs0 {K : df_K} {S : df_T} {b t x : Nat} (hc : df_co K S = some (b, t)) (ho : S.2.2.2 = 0 ∨ x < S.2.2.1) (hs : df_st b t x = 0) : df_af K S x = df_rs K b t x 1 := by
  have key : df_lv K b t x 1 = df_rs K b t x 1 := by
    unfold df_lv df_rs
    by_cases hb : b ≤ x
    · rw [if_pos hb, if_pos hb]
    · rw [if_neg hb, if_neg hb, if_pos rfl, hs, Nat.zero_add]
  rw [← key]
  unfold df_co at hc
  unfold df_af
  by_cases h0 : S.2.2.2 = 0
  · rw [if_pos h0] at hc ⊢
    cases hc
    rfl
  · rw [if_neg h0] at hc ⊢
    have hx : x < S.2.2.1 := ho.elim (fun z => absurd z h0) id
    rw [if_neg (by omega), if_neg (by omega)]
    obtain ⟨C, c1, c2⟩ := Option.map_eq_some_iff.mp hc
    rw [c1]
    show df_lv K C.1 C.2.1 x 1 = _
    have e1 : C.1 = b := congrArg Prod.fst c2
    have e2 : C.2.1 = t := congrArg Prod.snd c2
    rw [e1, e2]
/-- a whole run -/
theorem df_run {K : df_K} (G : df_G K) {f : Nat → Nat} {a : Nat} {S : df_T} {b t x : Nat} (h0 : df_rn K f a = some S) (hc : df_co K S = some (b, t)) (ho : S.2.2.2 = 0 ∨ x < S.2.2.1) (hs : df_st b t x = 0) : ∀ r : Nat, 1 ≤ r → (∀ i, i < r → f (a + i) = x) → df_rn K f (a + r) = df_rs K b t x r := by
  intro r
  induction r with
  | zero => intro h1; omega
  | succ r ih =>
    intro _ hf
    show (df_rn K f (a + r)).bind (fun S => df_af K S (f (a + r))) = _
    rw [hf r (by omega)]
    by_cases hr : r = 0
    · subst hr
      show (df_rn K f a).bind _ = _
      rw [h0]
      exact df_rs0 hc ho hs
    · rw [ih (by omega) (fun i hi => hf i (by omega))]
      exact df_rs1 G (by omega) hs
end
section
/-! ===== the reference's test, run by run, against the automaton (by hand) ===== -/
/-- behind the like signs x that stand from e on (at most c places) -/
def ka_e (f : Nat → Nat) (x : Nat) : Nat → Nat → Nat
  | 0, e => e
  | c + 1, e => if f e = x then ka_e f x c (e + 1) else e
theorem ka_e_ok (f : Nat → Nat) (x : Nat) : ∀ c e : Nat, e ≤ ka_e f x c e ∧ ka_e f x c e ≤ e + c ∧ (∀ i, e ≤ i → i < ka_e f x c e → f i = x) ∧ (ka_e f x c e < e + c → f (ka_e f x c e) ≠ x) := by
  intro c
  induction c with
  | zero => intro e; exact ⟨Nat.le_refl _, Nat.le_refl _, fun i h1 h2 => absurd h2 (Nat.not_lt.mpr h1), fun h => absurd h (Nat.lt_irrefl _)⟩
  | succ c ih =>
    intro e
    unfold ka_e
    by_cases h : f e = x
    · rw [if_pos h]
      obtain ⟨a1, a2, a3, a4⟩ := ih (e + 1)
      refine ⟨by omega, by omega, fun i h1 h2 => ?_, fun h1 => a4 (by omega)⟩
      by_cases hi : i = e
      · rw [hi]; exact h
      · exact a3 i (by omega) h2
    · rw [if_neg h]
      exact ⟨Nat.le_refl _, by omega, fun i h1 h2 => absurd h2 (Nat.not_lt.mpr h1), fun _ => h⟩
/-- a run at the end may be the beginning of a taking -/
def ka_mb (K : df_K) (x r head cap : Nat) : Prop := ∃ y, x < y ∧ y < 14 ∧ (r = 1 ∧ K.2.1 x y = true ∨ r ≤ 2 ∧ K.2.2 x y = true) ∧ y ≤ head ∧ y < cap
abbrev ka_mt (K : df_K) (x y r : Nat) : Prop := r = 1 ∧ K.2.1 x y = true ∨ r = 2 ∧ K.2.2 x y = true
/-- the reference's test from place a on (c: at least so many places and one more) -/
def ka (K : df_K) (f : Nat → Nat) (size : Nat) (w : Prop) : Nat → Nat → Nat → Nat → Nat → Prop
  | 0, _, _, _, _ => True
  | c + 1, a, head, cap, ph => size ≤ a ∨ f a < cap ∧ ((ka_e f (f a) (size - a) a < size ∧ f a < f (ka_e f (f a) (size - a) a) ∧ f (ka_e f (f a) (size - a) a) < cap ∧ f (ka_e f (f a) (size - a) a) ≤ head ∧ ka_mt K (f a) (f (ka_e f (f a) (size - a) a)) (ka_e f (f a) (size - a) a - a) ∧ ka K f size w c (ka_e f (f a) (size - a) a + 1) (f a) (f a) 15) ∨
      ¬ (ka_e f (f a) (size - a) a < size ∧ f a < f (ka_e f (f a) (size - a) a)) ∧ ((f a ≤ head ∧ f a ≠ ph ∧ ka_e f (f a) (size - a) a - a ≤ K.1 (f a)) ∧ ka K f size w c (ka_e f (f a) (size - a) a) (f a) cap (f a) ∨
        ¬ (f a ≤ head ∧ f a ≠ ph ∧ ka_e f (f a) (size - a) a - a ≤ K.1 (f a)) ∧ ¬ w ∧ ka_e f (f a) (size - a) a = size ∧ ka_mb K (f a) (ka_e f (f a) (size - a) a - a) head cap))
/-- what a whole run comes to when it is closed as plain -/
theorem df_rs_co {K : df_K} {b t x r : Nat} (hb : x < b) (hs : df_st b t x = 0) (hr : 1 ≤ r) (hk : r ≤ K.1 x) : ∃ S, df_rs K b t x r = some S ∧ df_co K S = some (x + 1, r) ∧ df_wh K S ∧ ∀ y, y < x → S.2.2.2 = 0 ∨ y < S.2.2.1 := by
  have hb' : ¬ b ≤ x := Nat.not_le.mpr hb
  by_cases h1 : r = 1
  · subst h1
    rw [df_rs_1 hb', if_pos (Or.inr hk)]
    refine ⟨_, rfl, ?_, Or.inr (by show df_st b t x + 1 ≤ K.1 x; omega), fun y hy => Or.inr hy⟩
    unfold df_co df_cl
    rw [if_neg (by decide : ¬ (1 : Nat) = 0)]
    show Option.map _ (if df_st b t x + 1 ≤ K.1 x then some (x + 1, df_st b t x + 1, 0, 0) else none) = _
    rw [hs, Nat.zero_add, if_pos hk]
    rfl
  by_cases h2 : r = 2
  · subst h2
    rw [df_rs_2 hb', if_pos (Or.inr hk)]
    refine ⟨_, rfl, ?_, Or.inr (by show df_st b t x + 2 ≤ K.1 x; omega), fun y hy => Or.inr hy⟩
    unfold df_co df_cl
    rw [if_neg (by decide : ¬ (2 : Nat) = 0)]
    show Option.map _ (if df_st b t x + 2 ≤ K.1 x then some (x + 1, df_st b t x + 2, 0, 0) else none) = _
    rw [hs, Nat.zero_add, if_pos hk]
    rfl
  · rw [df_rs_3 hb' h1 h2, if_pos hk]
    have h3 : r % 3 = 0 ∨ r % 3 = 1 ∨ r % 3 = 2 := by omega
    refine ⟨_, rfl, ?_, ?_, ?_⟩
    · unfold df_co df_cl
      by_cases e : r % 3 = 0
      · show (if r % 3 = 0 then some (x + 1, 3 * (r / 3)) else _) = _
        rw [if_pos e, show 3 * (r / 3) = r by omega]
      · show (if r % 3 = 0 then _ else Option.map _ (if df_st (x + 1) (3 * (r / 3)) (if r % 3 = 0 then 0 else x) + r % 3 ≤ K.1 (if r % 3 = 0 then 0 else x) then some ((if r % 3 = 0 then 0 else x) + 1, df_st (x + 1) (3 * (r / 3)) (if r % 3 = 0 then 0 else x) + r % 3, 0, 0) else none)) = _
        rw [if_neg e, if_neg e, df_st1, show 3 * (r / 3) + r % 3 = r by omega, if_pos hk]
        rfl
    · by_cases e : r % 3 = 0
      · exact Or.inl e
      · refine Or.inr ?_
        show df_st (x + 1) (3 * (r / 3)) (if r % 3 = 0 then 0 else x) + r % 3 ≤ K.1 (if r % 3 = 0 then 0 else x)
        rw [if_neg e, df_st1]
        omega
    · intro y hy
      by_cases e : r % 3 = 0
      · exact Or.inl e
      · refine Or.inr ?_
        show y < (if r % 3 = 0 then 0 else x)
        rw [if_neg e]
        exact hy
/-- a run that may not be plain: what lives of it -/
theorem df_rs_np {K : df_K} {b t x r : Nat} {S : df_T} (hs : df_st b t x = 0) (hr : 1 ≤ r) (hk : ¬ r ≤ K.1 x) (h : df_rs K b t x r = some S) : x < b ∧ (r = 1 ∨ r = 2) ∧ df_hd K b x r = true ∧ S = (b, t, x, r) := by
  by_cases hb : b ≤ x
  · rw [df_rs_d hb] at h; cases h
  by_cases h1 : r = 1
  · subst h1
    rw [df_rs_1 hb] at h
    by_cases q : df_hd K b x 1 = true ∨ 1 ≤ K.1 x
    · rw [if_pos q] at h
      cases h
      exact ⟨by omega, Or.inl rfl, q.elim id (fun z => absurd z hk), rfl⟩
    · rw [if_neg q] at h; cases h
  by_cases h2 : r = 2
  · subst h2
    rw [df_rs_2 hb] at h
    by_cases q : df_hd K b x 2 = true ∨ 2 ≤ K.1 x
    · rw [if_pos q] at h
      cases h
      exact ⟨by omega, Or.inr rfl, q.elim id (fun z => absurd z hk), rfl⟩
    · rw [if_neg q] at h; cases h
  · rw [df_rs_3 hb h1 h2, if_neg hk] at h; cases h
theorem df_rs_hd {K : df_K} {b t x r : Nat} (hb : x < b) (hr : r = 1 ∨ r = 2) (hh : df_hd K b x r = true) : df_rs K b t x r = some (b, t, x, r) := by
  rcases hr with rfl | rfl
  · rw [df_rs_1 (Nat.not_le.mpr hb), if_pos (Or.inl hh)]
  · rw [df_rs_2 (Nat.not_le.mpr hb), if_pos (Or.inl hh)]
/-- a greater sign behind a run -/
theorem df_rs_up {K : df_K} (G : df_G K) {b t x r y : Nat} (hr : 1 ≤ r) (hy : x < y) : (df_rs K b t x r).bind (fun S => df_af K S y) = if x < b ∧ y < b ∧ ka_mt K x y r then some (x, 0, 0, 0) else none := by
  by_cases hb : b ≤ x
  · rw [if_neg (fun z => by omega)]
    rw [df_rs_d hb]
    rfl
  by_cases h12 : r = 1 ∨ r = 2
  · have ha : df_af K (b, t, x, r) y = if df_ta K x r y = true ∧ y < b then some (x, 0, 0, 0) else none := by
      unfold df_af
      show (if r = 0 then _ else if x < y then _ else _) = _
      rw [if_neg (by omega), if_pos hy]
    have ht : df_ta K x r y = true ↔ ka_mt K x y r := by
      unfold df_ta ka_mt
      rcases h12 with rfl | rfl
      · rw [if_pos rfl]
        exact ⟨fun z => Or.inl ⟨rfl, z⟩, fun z => z.elim (fun u => u.2) (fun u => absurd u.1 (by decide))⟩
      · rw [if_neg (by decide)]
        exact ⟨fun z => Or.inr ⟨rfl, z⟩, fun z => z.elim (fun u => absurd u.1 (by decide)) (fun u => u.2)⟩
    by_cases hh : df_hd K b x r = true
    · rw [df_rs_hd (by omega) h12 hh]
      show df_af K (b, t, x, r) y = _
      rw [ha]
      by_cases q : df_ta K x r y = true ∧ y < b
      · rw [if_pos q, if_pos (And.intro (by omega : x < b) (And.intro q.2 (ht.mp q.1)))]
      · rw [if_neg q, if_neg (fun z => q ⟨ht.mpr z.2.2, z.2.1⟩)]
    · have hn : ¬ (y < b ∧ ka_mt K x y r) := by
        rintro ⟨z1, z2⟩
        refine hh (df_hd_iff.mpr ⟨y, z1, ?_⟩)
        rcases z2 with ⟨u, v⟩ | ⟨u, v⟩
        · exact Or.inl ⟨u, v⟩
        · exact Or.inr v
      rw [if_neg (fun z => hn z.2)]
      by_cases q : ∃ S, df_rs K b t x r = some S
      · obtain ⟨S, hS⟩ := q
        rw [hS]
        show df_af K S y = none
        have hS' : S = (b, t, x, r) := by
          rcases h12 with rfl | rfl
          · rw [df_rs_1 hb] at hS
            split at hS
            · cases hS; rfl
            · cases hS
          · rw [df_rs_2 hb] at hS
            split at hS
            · cases hS; rfl
            · cases hS
        rw [hS', ha, if_neg (fun z => hn ⟨z.2, ht.mp z.1⟩)]
      · match hS : df_rs K b t x r with
        | none => rfl
        | some S => exact absurd ⟨S, hS⟩ q
  · rw [if_neg (fun z => h12 (z.2.2.elim (fun u => Or.inl u.1) (fun u => Or.inr u.1)))]
    rw [df_rs_3 hb (fun z => h12 (Or.inl z)) (fun z => h12 (Or.inr z))]
    by_cases hk : r ≤ K.1 x
    · rw [if_pos hk]
      show df_af K (x + 1, 3 * (r / 3), (if r % 3 = 0 then 0 else x), r % 3) y = none
      unfold df_af
      by_cases e : r % 3 = 0
      · rw [if_pos (show (x + 1, 3 * (r / 3), (if r % 3 = 0 then 0 else x), r % 3).2.2.2 = 0 from e)]
        show df_lv K (x + 1) (3 * (r / 3)) y 1 = none
        unfold df_lv
        rw [if_pos (by omega)]
      · rw [if_neg (show ¬ (x + 1, 3 * (r / 3), (if r % 3 = 0 then 0 else x), r % 3).2.2.2 = 0 from e)]
        show (if (if r % 3 = 0 then 0 else x) < y then (if df_ta K (if r % 3 = 0 then 0 else x) (r % 3) y = true ∧ y < x + 1 then some ((if r % 3 = 0 then 0 else x), 0, 0, 0) else none) else _) = none
        rw [if_neg e, if_pos hy, if_neg (fun z => by omega)]
    · rw [if_neg hk]
      rfl
theorem df_al {K : df_K} {f : Nat → Nat} {j : Nat} : ∀ (m : Nat) {S : df_T}, df_rn K f (j + m) = some S → ∃ S', df_rn K f j = some S'
  | 0, S, h => ⟨S, h⟩
  | m + 1, S, h => by
    have h1 : (df_rn K f (j + m)).bind (fun S => df_af K S (f (j + m))) = some S := h
    obtain ⟨S1, e1, -⟩ := Option.bind_eq_some_iff.mp h1
    exact df_al m e1
theorem df_st0 (b x : Nat) : df_st b 0 x = 0 := by
  unfold df_st
  split <;> rfl
theorem ka_ok {K : df_K} (G : df_G K) {f : Nat → Nat} (hf : ∀ i, f i < 14) {size : Nat} (w : Prop) : ∀ (c a head cap ph b t : Nat) (S : df_T), size < a + c → a ≤ size → df_rn K f a = some S → df_co K S = some (b, t) → df_wh K S → (∀ z, z < b ↔ z < cap ∧ z ≤ head) → (a < size → (S.2.2.2 = 0 ∨ f a < S.2.2.1) ∧ df_st b t (f a) = 0 ∧ f a ≠ ph) → (ka K f size w c a head cap ph ↔ ∃ S', df_rn K f size = some S' ∧ (w → df_wh K S')) := by
  intro c
  induction c with
  | zero => intro a head cap ph b t S h1 h2; omega
  | succ c ih =>
    intro a head cap ph b t S hc hle h0 hco hwh hb hn
    by_cases hsz : size ≤ a
    · have e : a = size := by omega
      subst e
      exact ⟨fun _ => ⟨S, h0, fun _ => hwh⟩, fun _ => Or.inl hsz⟩
    obtain ⟨n1, n2, n3⟩ := hn (by omega)
    obtain ⟨k1, k2, k3, k4⟩ := ka_e_ok f (f a) (size - a) a
    unfold ka
    generalize hE : ka_e f (f a) (size - a) a = e at k1 k2 k3 k4 ⊢
    generalize hX : f a = x at n1 n2 n3 k3 k4 ⊢
    have hae : a < e := by
      by_cases q : a = e
      · exact absurd (by rw [← q]; exact hX) (k4 (by omega))
      · omega
    have hrun : df_rn K f e = df_rs K b t x (e - a) := by
      have := df_run G h0 hco n1 n2 (e - a) (by omega) (fun i hi => k3 (a + i) (by omega) (by omega))
      rw [show a + (e - a) = e by omega] at this
      exact this
    have hnone : ¬ x < b → ∀ S', ¬ df_rn K f size = some S' := by
      intro hx S' hS
      rw [show size = e + (size - e) by omega] at hS
      obtain ⟨S1, e1⟩ := df_al (size - e) hS
      rw [hrun] at e1
      rw [df_rs_d (by omega)] at e1
      cases e1
    by_cases up : e < size ∧ x < f e
    · have hup : df_rn K f (e + 1) = if x < b ∧ f e < b ∧ ka_mt K x (f e) (e - a) then some (x, 0, 0, 0) else none := by
        show (df_rn K f e).bind (fun S => df_af K S (f e)) = _
        rw [hrun]
        exact df_rs_up G (by omega) up.2
      by_cases q : x < b ∧ f e < b ∧ ka_mt K x (f e) (e - a)
      · rw [if_pos q] at hup
        have hi := ih (e + 1) x x 15 x 0 (x, 0, 0, 0) (by omega) (by omega) hup rfl (Or.inl rfl) (fun z => by omega) (fun _ => ⟨Or.inl rfl, df_st0 _ _, fun z => by have := hf (e + 1); omega⟩)
        rw [← hi]
        constructor
        · intro z
          rcases z with z | ⟨-, ⟨-, -, -, -, -, z⟩ | ⟨z, -⟩⟩
          · exact absurd z hsz
          · exact z
          · exact absurd up z
        · intro z
          exact Or.inr ⟨((hb x).mp q.1).1, Or.inl ⟨up.1, up.2, ((hb _).mp q.2.1).1, ((hb _).mp q.2.1).2, q.2.2, z⟩⟩
      · rw [if_neg q] at hup
        constructor
        · intro z
          rcases z with z | ⟨z0, ⟨-, -, z1, z2, z3, -⟩ | ⟨z, -⟩⟩
          · exact absurd z hsz
          · exact absurd ⟨(hb x).mpr ⟨z0, by omega⟩, (hb _).mpr ⟨z1, z2⟩, z3⟩ q
          · exact absurd up z
        · rintro ⟨S', hS, -⟩
          rw [show size = (e + 1) + (size - (e + 1)) by omega] at hS
          obtain ⟨S1, e1⟩ := df_al (size - (e + 1)) hS
          rw [hup] at e1
          cases e1
    · by_cases p : x ≤ head ∧ x ≠ ph ∧ e - a ≤ K.1 x
      · by_cases hx : x < cap
        · obtain ⟨S1, s1, s2, s3, s4⟩ := df_rs_co (K := K) ((hb x).mpr ⟨hx, p.1⟩) n2 (by omega : 1 ≤ e - a) p.2.2
          have hlt : e < size → f e < x := fun q => by
            have := k4 (by omega)
            have : ¬ x < f e := fun z => up ⟨q, z⟩
            omega
          have hi := ih e x cap x (x + 1) (e - a) S1 (by omega) (by omega) (hrun.trans s1) s2 s3 (fun z => by omega) (fun q => ⟨s4 _ (hlt q), by unfold df_st; rw [if_neg (by have := hlt q; omega)], by have := hlt q; omega⟩)
          rw [← hi]
          constructor
          · intro z
            rcases z with z | ⟨-, ⟨z1, z2, -⟩ | ⟨-, ⟨-, z⟩ | ⟨z, -⟩⟩⟩
            · exact absurd z hsz
            · exact absurd ⟨z1, z2⟩ up
            · exact z
            · exact absurd p z
          · intro z
            exact Or.inr ⟨hx, Or.inr ⟨up, Or.inl ⟨p, z⟩⟩⟩
        · constructor
          · intro z
            rcases z with z | ⟨z, -⟩
            · exact absurd z hsz
            · exact absurd z hx
          · rintro ⟨S', hS, -⟩
            exact absurd hS (hnone (fun z => hx ((hb x).mp z).1) S')
      · constructor
        · intro z
          rcases z with z | ⟨z0, ⟨z1, z2, -⟩ | ⟨-, ⟨z, -⟩ | ⟨-, zw, ze, y, y1, y2, y3, y4, y5⟩⟩⟩
          · exact absurd z hsz
          · exact absurd ⟨z1, z2⟩ up
          · exact absurd z p
          · have hxb : x < b := (hb x).mpr ⟨z0, by omega⟩
            have hr : e - a = 1 ∨ e - a = 2 := by
              rcases y3 with u | u
              · exact Or.inl u.1
              · have := u.1
                omega
            have hh : df_hd K b x (e - a) = true := df_hd_iff.mpr ⟨y, (hb y).mpr ⟨y5, y4⟩, y3.imp id (fun u => u.2)⟩
            refine ⟨(b, t, x, e - a), ?_, fun u => absurd u zw⟩
            rw [← ze, hrun]
            exact df_rs_hd hxb hr hh
        · rintro ⟨S', hS, hw⟩
          have hxb : x < b := Decidable.byContradiction fun z => hnone z S' hS
          have hk : ¬ e - a ≤ K.1 x := fun z => p ⟨((hb x).mp hxb).2, n3, z⟩
          by_cases he : e = size
          · rw [← he, hrun] at hS
            obtain ⟨-, m2, m3, m4⟩ := df_rs_np n2 (by omega) hk hS
            obtain ⟨y, y1, y2⟩ := df_hd_iff.mp m3
            have hg : x < y ∧ y < 14 := y2.elim (fun u => G.1 x y u.2) (fun u => G.2 x y u)
            refine Or.inr ⟨((hb x).mp hxb).1, Or.inr ⟨up, Or.inr ⟨p, fun u => ?_, he, y, hg.1, hg.2, ?_, ((hb y).mp y1).2, ((hb y).mp y1).1⟩⟩⟩
            · have := hw u
              rw [m4] at this
              rcases this with v | v
              · have v' : e - a = 0 := v
                omega
              · have v' : df_st b t x + (e - a) ≤ K.1 x := v
                omega
            · rcases y2 with u | u
              · exact Or.inl u
              · exact Or.inr ⟨by omega, u⟩
          · exfalso
            rw [show size = (e + 1) + (size - (e + 1)) by omega] at hS
            obtain ⟨S1, e1⟩ := df_al (size - (e + 1)) hS
            have e2 : (df_rn K f e).bind (fun S => df_af K S (f e)) = some S1 := e1
            obtain ⟨S2, e3, e4⟩ := Option.bind_eq_some_iff.mp e2
            rw [hrun] at e3
            obtain ⟨-, m2, -, m4⟩ := df_rs_np n2 (by omega) hk e3
            have hy : f e < x := by
              have := k4 (by omega)
              have : ¬ x < f e := fun z => up ⟨by omega, z⟩
              omega
            rw [m4] at e4
            unfold df_af at e4
            have e5 : (if e - a = 0 then df_lv K b t (f e) 1 else if x < f e then (if df_ta K x (e - a) (f e) = true ∧ f e < b then some (x, 0, 0, 0) else none) else if f e = x then (if e - a = 1 then df_lv K b t (f e) 2 else df_cl K b t (f e) 3) else (df_cl K b t x (e - a)).bind fun C => df_lv K C.1 C.2.1 (f e) 1) = some S1 := e4
            rw [if_neg (by omega), if_neg (by omega), if_neg (by omega)] at e5
            unfold df_cl at e5
            rw [n2, Nat.zero_add, if_neg hk] at e5
            cases e5
/-- the reference's test of all signs -/
theorem ka_all {K : df_K} (G : df_G K) {f : Nat → Nat} (hf : ∀ i, f i < 14) (size : Nat) (w : Prop) : ka K f size w (size + 1) 0 13 14 15 ↔ ∃ S', df_rn K f size = some S' ∧ (w → df_wh K S') :=
  ka_ok G hf w (size + 1) 0 13 14 15 14 0 (14, 0, 0, 0) (by omega) (Nat.zero_le _) rfl rfl (Or.inl rfl) (fun z => by omega) (fun _ => ⟨Or.inl rfl, df_st0 _ _, fun z => by have := hf 0; omega⟩)
end
section
/-! ===== bits of a custom; the automaton's states as numbers (by hand) ===== -/
/-- bit i -/
def bt (y : Int32) (i : Nat) : Bool := y.toBitVec.getLsbD i
theorem bt_and1 (v : BitVec 32) : v &&& 1#32 = if v.getLsbD 0 = true then 1#32 else 0#32 := by
  apply BitVec.eq_of_getLsbD_eq
  intro j hj
  rw [BitVec.getLsbD_and]
  by_cases e : j = 0
  · subst e
    cases h : v.getLsbD 0 <;> simp
  · have h1 : (1#32).getLsbD j = false := (by decide : ∀ j, j < 32 → ¬ j = 0 → (1#32).getLsbD j = false) j hj e
    rw [h1, Bool.and_false]
    split
    · exact h1.symm
    · simp
theorem bt_sh : ∀ i, i < 14 → ((nI i &&& 31).toBitVec.smod 32).toNat = i := by decide +kernel
theorem bt_1 (y : Int32) {b : Int32} {i : Nat} (hi : i < 14) (hb : b.toInt = (i : Int)) : ((y >>> (b &&& 31)) &&& (Int32.ofInt 1)) = if bt y i = true then Int32.ofInt 1 else Int32.ofInt 0 := by
  obtain rfl : b = nI i := lt_nI hb (by omega)
  apply Int32.toBitVec_inj.1
  have e : ((y >>> (nI i &&& 31)) &&& (Int32.ofInt 1)).toBitVec = (y.toBitVec.sshiftRight i) &&& 1#32 := by
    rw [Int32.toBitVec_and, Int32.toBitVec_shiftRight]
    unfold BitVec.sshiftRight'
    rw [bt_sh i hi]
    rfl
  rw [e, bt_and1]
  have e2 : (y.toBitVec.sshiftRight i).getLsbD 0 = bt y i := by
    unfold bt
    rw [BitVec.getLsbD_sshiftRight]
    simp [show i < 32 by omega]
  rw [e2]
  split <;> rfl
theorem bt_mk : ∀ i, i < 15 → ((Int32.ofInt 1 <<< (nI i &&& 31)) - Int32.ofInt 1).toBitVec = BitVec.ofNat 32 (2 ^ i - 1) := by decide +kernel
theorem bt_mj : ∀ i, i < 15 → ∀ j, j < 32 → (BitVec.ofNat 32 (2 ^ i - 1)).getLsbD j = decide (j < i) := by decide +kernel
theorem bt_m (y : Int32) {b : Int32} {i : Nat} (hi : i < 15) (hb : b.toInt = (i : Int)) : (y &&& ((Int32.ofInt 1 <<< (b &&& 31)) - Int32.ofInt 1)).toInt ≠ 0 ↔ ∃ j, j < i ∧ bt y j = true := by
  obtain rfl : b = nI i := lt_nI hb (by omega)
  have e : (y &&& ((Int32.ofInt 1 <<< (nI i &&& 31)) - Int32.ofInt 1)).toBitVec = y.toBitVec &&& BitVec.ofNat 32 (2 ^ i - 1) := by
    rw [Int32.toBitVec_and, bt_mk i hi]
  constructor
  · intro h
    refine Decidable.byContradiction fun hn => h ?_
    have h0 : y &&& ((Int32.ofInt 1 <<< (nI i &&& 31)) - Int32.ofInt 1) = Int32.ofInt 0 := by
      apply Int32.toBitVec_inj.1
      rw [e]
      apply BitVec.eq_of_getLsbD_eq
      intro j hj
      rw [BitVec.getLsbD_and, bt_mj i hi j hj]
      by_cases q : j < i
      · have hf : y.toBitVec.getLsbD j = false := by
          cases hb2 : y.toBitVec.getLsbD j
          · rfl
          · exact absurd ⟨j, q, hb2⟩ hn
        rw [hf, Bool.false_and]
        exact (by decide : ∀ j, j < 32 → false = (Int32.ofInt 0).toBitVec.getLsbD j) j hj
      · rw [decide_eq_false q, Bool.and_false]
        exact (by decide : ∀ j, j < 32 → false = (Int32.ofInt 0).toBitVec.getLsbD j) j hj
    rw [h0]
    decide
  · rintro ⟨j, hj, hb2⟩ h
    have h0 : y &&& ((Int32.ofInt 1 <<< (nI i &&& 31)) - Int32.ofInt 1) = Int32.ofInt 0 := Int32.toInt_inj.mp (by rw [h]; decide)
    have h1 : (y.toBitVec &&& BitVec.ofNat 32 (2 ^ i - 1)).getLsbD j = false := by
      rw [← e, h0]
      exact (by decide : ∀ j, j < 32 → (Int32.ofInt 0).toBitVec.getLsbD j = false) j (by omega)
    rw [BitVec.getLsbD_and, bt_mj i hi j (by omega), decide_eq_true hj, Bool.and_true] at h1
    have h2 : y.toBitVec.getLsbD j = true := hb2
    rw [h1] at h2
    cases h2
theorem bt_or (y z : Int32) (i : Nat) : bt (y ||| z) i = (bt y i || bt z i) := by
  unfold bt
  rw [Int32.toBitVec_or, BitVec.getLsbD_or]
/-- a state as a number -/
def df_E (S : df_T) : Int32 := Int32.ofInt ((S.1 + 16 * S.2.1 + 256 * S.2.2.1 + 4096 * S.2.2.2 : Nat) : Int)
def df_B (S : df_T) : Prop := S.1 ≤ 14 ∧ S.2.1 ≤ 9 ∧ S.2.2.1 ≤ 13 ∧ S.2.2.2 ≤ 2
theorem df_e0 : ∀ b, b < 15 → ∀ t, t < 10 → ∀ s, s < 14 → ∀ o, o < 3 → (df_E (b, t, s, o) &&& (Int8.ofInt 15).toInt32).toInt = (b : Int) ∧ (((df_E (b, t, s, o) >>> ((Int32.ofInt 4) &&& 31)) &&& (Int8.ofInt 15).toInt32).toInt = (t : Int)) ∧ ((df_E (b, t, s, o) >>> ((Int8.ofInt 8).toInt32 &&& 31)) &&& (Int8.ofInt 15).toInt32).toInt = (s : Int) ∧ (df_E (b, t, s, o) >>> ((Int8.ofInt 12).toInt32 &&& 31)).toInt = (o : Int) := by decide +kernel
theorem df_e1 : ∀ b, b < 15 → ∀ t, t < 10 → ∀ s, s < 14 → ∀ o, o < 3 → (df_E (b, t, s, o) &&& (Int16.ofInt 255).toInt32) = Int32.ofInt ((b + 16 * t : Nat) : Int) ∧ ((Int32.ofInt ((b + 16 * t : Nat) : Int) ||| (nI s <<< ((Int8.ofInt 8).toInt32 &&& 31))) ||| (nI o <<< ((Int8.ofInt 12).toInt32 &&& 31))) = df_E (b, t, s, o) := by decide +kernel
theorem df_e2 : ∀ s, s < 14 → ∀ t, t < 10 → (nI (s + 1) ||| (nI t <<< ((Int32.ofInt 4) &&& 31))) = df_E (s + 1, t, 0, 0) ∧ nI s = df_E (s, 0, 0, 0) := by decide +kernel
theorem df_eF : (Int8.ofInt 14).toInt32 = df_E (14, 0, 0, 0) := by decide
theorem df_ne : ∀ b, b < 15 → ∀ t, t < 10 → ∀ s, s < 14 → ∀ o, o < 3 → 0 ≤ (df_E (b, t, s, o)).toInt := by decide +kernel
end
section
/-! ===== the methods of a custom in the class, on the automaton's states (ways printed by wip/v2/mk93.py) ===== -/
set_option maxRecDepth 100000 in
theorem dw_belowIn {l : Launch} {G : ax_T} {d : Nat} {h : ax_H} {n : Nat} (hd : 1 ≤ d) {b t s o : Nat} (hb : b < 15) (ht : t < 10) (hs : s < 14) (ho : o < 3) {S : Int32} (hS : S = df_E (b, t, s, o)) : mc_M l G d mt_X1_belowIn [.int S] h n (mc_P h n fun y => y.toInt = (b : Int)) := by
  obtain ⟨d, rfl⟩ : ∃ e, d = e + 1 := ⟨d - 1, by omega⟩
  have hmi : mt_X1_belowIn ∈ mt_prog := List.mem_of_getElem? mi_X1_belowIn
  refine mc_to hmi rfl ?_
  show mc_R _ _ _ _ _ (0, [(0, .int S)], [], h, n, 0, 0)
  refine mc_cx hmi 3 (F' := (4, [(0, .int S)], [.int (S &&& (Int8.ofInt 15).toInt32)], h, n, 0, 0)) (by with_unfolding_all rfl) ?_
  exact mc_ret hmi rfl rfl rfl ⟨rfl, rfl, _, rfl, by rw [hS]; exact (df_e0 b hb t ht s hs o ho).1⟩
set_option maxRecDepth 100000 in
theorem dw_signIn {l : Launch} {G : ax_T} {d : Nat} {h : ax_H} {n : Nat} (hd : 1 ≤ d) {b t s o : Nat} (hb : b < 15) (ht : t < 10) (hs : s < 14) (ho : o < 3) {S : Int32} (hS : S = df_E (b, t, s, o)) : mc_M l G d mt_X1_signIn [.int S] h n (mc_P h n fun y => y.toInt = (s : Int)) := by
  obtain ⟨d, rfl⟩ : ∃ e, d = e + 1 := ⟨d - 1, by omega⟩
  have hmi : mt_X1_signIn ∈ mt_prog := List.mem_of_getElem? mi_X1_signIn
  refine mc_to hmi rfl ?_
  show mc_R _ _ _ _ _ (0, [(0, .int S)], [], h, n, 0, 0)
  refine mc_cx hmi 5 (F' := (7, [(0, .int S)], [.int ((S >>> ((Int8.ofInt 8).toInt32 &&& 31)) &&& (Int8.ofInt 15).toInt32)], h, n, 0, 0)) (by with_unfolding_all rfl) ?_
  exact mc_ret hmi rfl rfl rfl ⟨rfl, rfl, _, rfl, by rw [hS]; exact (df_e0 b hb t ht s hs o ho).2.2.1⟩
set_option maxRecDepth 100000 in
theorem dw_openIn {l : Launch} {G : ax_T} {d : Nat} {h : ax_H} {n : Nat} (hd : 1 ≤ d) {b t s o : Nat} (hb : b < 15) (ht : t < 10) (hs : s < 14) (ho : o < 3) {S : Int32} (hS : S = df_E (b, t, s, o)) : mc_M l G d mt_X1_openIn [.int S] h n (mc_P h n fun y => y.toInt = (o : Int)) := by
  obtain ⟨d, rfl⟩ : ∃ e, d = e + 1 := ⟨d - 1, by omega⟩
  have hmi : mt_X1_openIn ∈ mt_prog := List.mem_of_getElem? mi_X1_openIn
  refine mc_to hmi rfl ?_
  show mc_R _ _ _ _ _ (0, [(0, .int S)], [], h, n, 0, 0)
  refine mc_cx hmi 3 (F' := (4, [(0, .int S)], [.int (S >>> ((Int8.ofInt 12).toInt32 &&& 31))], h, n, 0, 0)) (by with_unfolding_all rfl) ?_
  exact mc_ret hmi rfl rfl rfl ⟨rfl, rfl, _, rfl, by rw [hS]; exact (df_e0 b hb t ht s hs o ho).2.2.2⟩
set_option maxRecDepth 100000 in
theorem dw_standingOf {l : Launch} {G : ax_T} {d : Nat} {h : ax_H} {n : Nat} (hd : 1 ≤ d) {b t s o : Nat} (hb : b < 15) (ht : t < 10) (hs : s < 14) (ho : o < 3) {S x : Int32} {v : Nat} (hS : S = df_E (b, t, s, o)) (hx : x.toInt = (v : Int)) (hv : v < 14) : mc_M l G d mt_X1_standingOf [.int S, .int x] h n (mc_P h n fun y => y.toInt = (df_st b t v : Int)) := by
  obtain ⟨d, rfl⟩ : ∃ e, d = e + 1 := ⟨d - 1, by omega⟩
  have hmi : mt_X1_standingOf ∈ mt_prog := List.mem_of_getElem? mi_X1_standingOf
  refine mc_to hmi rfl ?_
  show mc_R _ _ _ _ _ (0, [(0, .int S), (1, .int x)], [], h, n, 0, 0)
  have hb0 : (S &&& (Int8.ofInt 15).toInt32).toInt = (b : Int) := by rw [hS]; exact (df_e0 b hb t ht s hs o ho).1
  refine mc_cx hmi 6 (F' := (7, [(0, .int S), (1, .int x)], [.int (S &&& (Int8.ofInt 15).toInt32), .int (x + (Int32.ofInt 1))], h, n, 0, 0)) (by with_unfolding_all rfl) ?_
  have e101 : (x + (Int32.ofInt 1)).toInt = (v : Int) + 1 := mc_add hx (by decide) (by omega) (by omega)
  refine mc_ci hmi (c := .ne) (tg := 14) (pc' := 10) rfl rfl rfl e101 hb0 (fun (q102 : ((v : Int) + 1) ≠ (b : Int)) => ?_) (fun (q102 : ((v : Int) + 1) = (b : Int)) => ?_)
  · refine mc_cx hmi 3 (F' := (17, [(2, .int (Int32.ofInt 0)), (0, .int S), (1, .int x)], [.int (Int32.ofInt 0)], h, n, 0, 0)) (by with_unfolding_all rfl) ?_
    refine mc_cz hmi (c := .eq) (tg := 29) (pc' := 20) rfl rfl rfl (by decide) (fun (q103 : (0 : Int) = 0) => ?_) (fun (q103 : (0 : Int) ≠ 0) => ?_)
    · refine mc_cx hmi 1 (F' := (30, [(2, .int (Int32.ofInt 0)), (0, .int S), (1, .int x)], [.int (Int32.ofInt 0)], h, n, 0, 0)) (by with_unfolding_all rfl) ?_
      refine mc_ret hmi rfl rfl rfl ⟨rfl, rfl, _, rfl, ?_⟩
      show _ = ((df_st b t v : Nat) : Int)
      unfold df_st
      rw [if_neg (by omega)]
      rfl
    · exact absurd (by decide) q103
  · refine mc_cx hmi 4 (F' := (17, [(2, .int (Int32.ofInt 1)), (0, .int S), (1, .int x)], [.int (Int32.ofInt 1)], h, n, 0, 0)) (by with_unfolding_all rfl) ?_
    refine mc_cz hmi (c := .eq) (tg := 29) (pc' := 20) rfl rfl rfl (by decide) (fun (q104 : (1 : Int) = 0) => ?_) (fun (q104 : (1 : Int) ≠ 0) => ?_)
    · exact absurd q104 (by decide)
    · refine mc_cx hmi 6 (F' := (30, [(2, .int (Int32.ofInt 1)), (0, .int S), (1, .int x)], [.int ((S >>> ((Int32.ofInt 4) &&& 31)) &&& (Int8.ofInt 15).toInt32)], h, n, 0, 0)) (by with_unfolding_all rfl) ?_
      refine mc_ret hmi rfl rfl rfl ⟨rfl, rfl, _, rfl, ?_⟩
      show _ = ((df_st b t v : Nat) : Int)
      unfold df_st
      rw [if_pos (by omega), hS]
      exact (df_e0 b hb t ht s hs o ho).2.1
/-- a custom's cells hold K -/
def dw_K (h : ax_H) (cu c0 c1 c2 : Nat) (K : df_K) : Prop := pg_cu h cu c0 c1 c2 ∧ (∃ τs, ab_K[ab_k cu]? = some (.inr (1, τs))) ∧ ∀ v : Nat, v < 14 → ab_ri h c0 (v : Int) = (K.1 v : Int) ∧ K.1 v ≤ 9 ∧ (∀ i : Nat, bt (Int32.ofInt (ab_ri h c1 (v : Int))) i = K.2.1 v i) ∧ ∀ i : Nat, bt (Int32.ofInt (ab_ri h c2 (v : Int))) i = K.2.2 v i
def dw_o (y : Int32) (r : Option df_T) : Prop := match r with
  | none => y = Int32.ofInt (-1)
  | some T => y = df_E T ∧ df_B T
theorem dw_st_le {b t v : Nat} (ht : t < 10) : df_st b t v < 10 := by
  unfold df_st
  split <;> omega
theorem dw_nI {x : Int32} {v : Nat} (hx : x.toInt = (v : Int)) (hv : v < 1000) : x = nI v := lt_nI hx (by omega)
set_option maxRecDepth 100000 in
theorem dw_mayOnce {l : Launch} {G : ax_T} {d : Nat} {h : ax_H} {n : Nat} (hd : 1 ≤ d) (H : mc_HW h n) {cu c0 c1 c2 : Nat} {K : df_K} (hK : dw_K h cu c0 c1 c2 K) {x z : Int32} {v i : Nat} (hx : x.toInt = (v : Int)) (hv : v < 14) (hz : z.toInt = (i : Int)) (hi : i < 14) : mc_M l G d mt_X1_mayTakeOnce [.ref cu, .int x, .int z] h n (mc_P h n fun y => y.toInt = 1 ∧ K.2.1 v i = true ∨ y.toInt = 0 ∧ K.2.1 v i = false) := by
  obtain ⟨d, rfl⟩ : ∃ e, d = e + 1 := ⟨d - 1, by omega⟩
  have hmi : mt_X1_mayTakeOnce ∈ mt_prog := List.mem_of_getElem? mi_X1_mayTakeOnce
  obtain ⟨⟨u1, u2, u3, u4, u5, u6⟩, ⟨τs, uk⟩, hk⟩ := hK
  refine mc_to hmi rfl ?_
  show mc_R _ _ _ _ _ (0, [(0, .ref cu), (1, .int x), (2, .int z)], [], h, n, 0, 0)
  refine mc_cx hmi 1 (F' := (1, [(0, .ref cu), (1, .int x), (2, .int z)], [.ref cu], h, n, 0, 0)) (by with_unfolding_all rfl) ?_
  refine mc_getrC hmi H (k := cu) (j := 1) (pc' := 4) rfl u1.1 u2.2.1 u6.2.1 rfl ?_
  refine mc_cx hmi 1 (F' := (5, [(0, .ref cu), (1, .int x), (2, .int z)], [.int x, .ref c1], h, n, 0, 0)) (by with_unfolding_all rfl) ?_
  refine mc_iald hmi H (k := c1) (i := (v : Int)) (pc' := 6) rfl u1.2.2.1 u3.2.1 hx (by omega) (by omega) rfl (fun y105 e106 r1 r2 => ?_)
  have hy : bt y105 i = K.2.1 v i := by rw [← (hk v hv).2.2.1 i, ← e106, Int32.ofInt_toInt]
  refine mc_cx hmi 5 (F' := (11, [(0, .ref cu), (1, .int x), (2, .int z)], [.int (Int32.ofInt 1), .int ((y105 >>> (z &&& 31)) &&& (Int32.ofInt 1))], h, n, 0, 0)) (by with_unfolding_all rfl) ?_
  have ht : ((y105 >>> (z &&& 31)) &&& (Int32.ofInt 1)).toInt = (if K.2.1 v i = true then (1 : Int) else 0) := by
    rw [bt_1 y105 hi hz, hy]
    split <;> rfl
  refine mc_ci hmi (c := .ne) (tg := 18) (pc' := 14) rfl rfl rfl ht (by decide) (fun (q107 : (if K.2.1 v i = true then (1 : Int) else 0) ≠ 1) => ?_) (fun (q107 : (if K.2.1 v i = true then (1 : Int) else 0) = 1) => ?_)
  · refine mc_cx hmi 1 (F' := (19, [(0, .ref cu), (1, .int x), (2, .int z)], [.int (Int32.ofInt 0)], h, n, 0, 0)) (by with_unfolding_all rfl) ?_
    refine mc_ret hmi rfl rfl (mc_rb (by decide)) ⟨rfl, rfl, _, rfl, Or.inr ⟨by decide, ?_⟩⟩
    cases q : K.2.1 v i
    · rfl
    · exact absurd (by rw [if_pos q]) q107
  · refine mc_cx hmi 2 (F' := (19, [(0, .ref cu), (1, .int x), (2, .int z)], [.int (Int32.ofInt 1)], h, n, 0, 0)) (by with_unfolding_all rfl) ?_
    refine mc_ret hmi rfl rfl (mc_rb (by decide)) ⟨rfl, rfl, _, rfl, Or.inl ⟨by decide, ?_⟩⟩
    cases q : K.2.1 v i
    · rw [q] at q107; exact absurd q107 (by decide)
    · rfl
set_option maxRecDepth 100000 in
theorem dw_mayTwice {l : Launch} {G : ax_T} {d : Nat} {h : ax_H} {n : Nat} (hd : 1 ≤ d) (H : mc_HW h n) {cu c0 c1 c2 : Nat} {K : df_K} (hK : dw_K h cu c0 c1 c2 K) {x z : Int32} {v i : Nat} (hx : x.toInt = (v : Int)) (hv : v < 14) (hz : z.toInt = (i : Int)) (hi : i < 14) : mc_M l G d mt_X1_mayTakeTwice [.ref cu, .int x, .int z] h n (mc_P h n fun y => y.toInt = 1 ∧ K.2.2 v i = true ∨ y.toInt = 0 ∧ K.2.2 v i = false) := by
  obtain ⟨d, rfl⟩ : ∃ e, d = e + 1 := ⟨d - 1, by omega⟩
  have hmi : mt_X1_mayTakeTwice ∈ mt_prog := List.mem_of_getElem? mi_X1_mayTakeTwice
  obtain ⟨⟨u1, u2, u3, u4, u5, u6⟩, ⟨τs, uk⟩, hk⟩ := hK
  refine mc_to hmi rfl ?_
  show mc_R _ _ _ _ _ (0, [(0, .ref cu), (1, .int x), (2, .int z)], [], h, n, 0, 0)
  refine mc_cx hmi 1 (F' := (1, [(0, .ref cu), (1, .int x), (2, .int z)], [.ref cu], h, n, 0, 0)) (by with_unfolding_all rfl) ?_
  refine mc_getrC hmi H (k := cu) (j := 2) (pc' := 4) rfl u1.1 u2.2.2 u6.2.2 rfl ?_
  refine mc_cx hmi 1 (F' := (5, [(0, .ref cu), (1, .int x), (2, .int z)], [.int x, .ref c2], h, n, 0, 0)) (by with_unfolding_all rfl) ?_
  refine mc_iald hmi H (k := c2) (i := (v : Int)) (pc' := 6) rfl u1.2.2.2 u3.2.2 hx (by omega) (by omega) rfl (fun y108 e109 r1 r2 => ?_)
  have hy : bt y108 i = K.2.2 v i := by rw [← (hk v hv).2.2.2 i, ← e109, Int32.ofInt_toInt]
  refine mc_cx hmi 5 (F' := (11, [(0, .ref cu), (1, .int x), (2, .int z)], [.int (Int32.ofInt 1), .int ((y108 >>> (z &&& 31)) &&& (Int32.ofInt 1))], h, n, 0, 0)) (by with_unfolding_all rfl) ?_
  have ht : ((y108 >>> (z &&& 31)) &&& (Int32.ofInt 1)).toInt = (if K.2.2 v i = true then (1 : Int) else 0) := by
    rw [bt_1 y108 hi hz, hy]
    split <;> rfl
  refine mc_ci hmi (c := .ne) (tg := 18) (pc' := 14) rfl rfl rfl ht (by decide) (fun (q110 : (if K.2.2 v i = true then (1 : Int) else 0) ≠ 1) => ?_) (fun (q110 : (if K.2.2 v i = true then (1 : Int) else 0) = 1) => ?_)
  · refine mc_cx hmi 1 (F' := (19, [(0, .ref cu), (1, .int x), (2, .int z)], [.int (Int32.ofInt 0)], h, n, 0, 0)) (by with_unfolding_all rfl) ?_
    refine mc_ret hmi rfl rfl (mc_rb (by decide)) ⟨rfl, rfl, _, rfl, Or.inr ⟨by decide, ?_⟩⟩
    cases q : K.2.2 v i
    · rfl
    · exact absurd (by rw [if_pos q]) q110
  · refine mc_cx hmi 2 (F' := (19, [(0, .ref cu), (1, .int x), (2, .int z)], [.int (Int32.ofInt 1)], h, n, 0, 0)) (by with_unfolding_all rfl) ?_
    refine mc_ret hmi rfl rfl (mc_rb (by decide)) ⟨rfl, rfl, _, rfl, Or.inl ⟨by decide, ?_⟩⟩
    cases q : K.2.2 v i
    · rw [q] at q110; exact absurd q110 (by decide)
    · rfl
set_option maxRecDepth 100000 in
theorem dw_closePlain {l : Launch} {G : ax_T} {d : Nat} {h : ax_H} {n : Nat} (hd : 2 ≤ d) (H : mc_HW h n) {cu c0 c1 c2 : Nat} {K : df_K} (hK : dw_K h cu c0 c1 c2 K) {b t s o : Nat} (hb : b < 15) (ht : t < 10) (hs : s < 14) (ho : o < 3) {S m : Int32} {p : Nat} (hS : S = df_E (b, t, s, o)) (hm : m.toInt = (p : Int)) (hp : p ≤ 3) : mc_M l G d mt_X1_closePlain [.ref cu, .int S, .int m] h n (mc_P h n fun y => dw_o y (df_cl K b t s p)) := by
  obtain ⟨d, rfl⟩ : ∃ e, d = e + 1 := ⟨d - 1, by omega⟩
  have hmi : mt_X1_closePlain ∈ mt_prog := List.mem_of_getElem? mi_X1_closePlain
  obtain ⟨⟨u1, u2, u3, u4, u5, u6⟩, ⟨τs, uk⟩, hk⟩ := hK
  have hst := dw_st_le (b := b) (v := s) ht
  refine mc_to hmi rfl ?_
  show mc_R _ _ _ _ _ (0, [(0, .ref cu), (1, .int S), (2, .int m)], [], h, n, 0, 0)
  refine mc_cx hmi 1 (F' := (1, [(0, .ref cu), (1, .int S), (2, .int m)], [.int S], h, n, 0, 0)) (by with_unfolding_all rfl) ?_
  refine mc_callP hmi (en := (1, .invokestatic 46, 3, (3, 29, 0, 0), [627, 626])) rfl (q := (mt_X1_signIn, [.int S], [])) (by with_unfolding_all rfl) ⟨rfl, rfl⟩ (pc' := 4) rfl (dw_signIn (by omega) hb ht hs ho hS) (fun y111 e112 => ?_)
  refine mc_cx hmi 3 (F' := (7, [(3, .int y111), (0, .ref cu), (1, .int S), (2, .int m)], [.int y111, .int S], h, n, 0, 0)) (by with_unfolding_all rfl) ?_
  refine mc_callP hmi (en := (7, .invokestatic 55, 3, (3, 27, 0, 0), [624, 623])) rfl (q := (mt_X1_standingOf, [.int S, .int y111], [])) (by with_unfolding_all rfl) ⟨rfl, rfl⟩ (pc' := 10) rfl (dw_standingOf (by omega) hb ht hs ho hS e112 hs) (fun y113 e114 => ?_)
  refine mc_cx hmi 5 (F' := (17, [(4, .int (y113 + m)), (3, .int y111), (0, .ref cu), (1, .int S), (2, .int m)], [.ref cu, .int (y113 + m)], h, n, 0, 0)) (by with_unfolding_all rfl) ?_
  have e115 : (y113 + m).toInt = (df_st b t s : Int) + (p : Int) := mc_add e114 hm (by omega) (by omega)
  refine mc_getrC hmi H (k := cu) (j := 0) (pc' := 20) rfl u1.1 u2.1 u6.1 rfl ?_
  refine mc_cx hmi 1 (F' := (21, [(4, .int (y113 + m)), (3, .int y111), (0, .ref cu), (1, .int S), (2, .int m)], [.int y111, .ref c0, .int (y113 + m)], h, n, 0, 0)) (by with_unfolding_all rfl) ?_
  refine mc_iald hmi H (k := c0) (i := (s : Int)) (pc' := 22) rfl u1.2.1 u3.1 e112 (by omega) (by omega) rfl (fun y116 e117 r1 r2 => ?_)
  have hc := (hk s hs).1
  have hc9 := (hk s hs).2.1
  rw [hc] at e117
  refine mc_ci hmi (c := .gt) (tg := 36) (pc' := 25) rfl rfl rfl e115 e117 (fun (q118 : (K.1 s : Int) < ((df_st b t s : Int) + (p : Int))) => ?_) (fun (q118 : ((df_st b t s : Int) + (p : Int)) ≤ (K.1 s : Int)) => ?_)
  · refine mc_cx hmi 1 (F' := (37, [(4, .int (y113 + m)), (3, .int y111), (0, .ref cu), (1, .int S), (2, .int m)], [.int (Int32.ofInt (-1))], h, n, 0, 0)) (by with_unfolding_all rfl) ?_
    refine mc_ret hmi rfl rfl rfl ⟨rfl, rfl, _, rfl, ?_⟩
    unfold df_cl
    rw [if_neg (by omega)]
    rfl
  · refine mc_cx hmi 8 (F' := (37, [(4, .int (y113 + m)), (3, .int y111), (0, .ref cu), (1, .int S), (2, .int m)], [.int ((y111 + (Int32.ofInt 1)) ||| ((y113 + m) <<< ((Int32.ofInt 4) &&& 31)))], h, n, 0, 0)) (by with_unfolding_all rfl) ?_
    have e119 : (y111 + (Int32.ofInt 1)).toInt = (s : Int) + 1 := mc_add e112 (by decide) (by omega) (by omega)
    refine mc_ret hmi rfl rfl rfl ⟨rfl, rfl, _, rfl, ?_⟩
    unfold df_cl
    rw [if_pos (by omega)]
    refine ⟨?_, (by omega : s + 1 ≤ 14), (by omega : df_st b t s + p ≤ 9), Nat.zero_le _, Nat.zero_le _⟩
    have k1 : (y111 + (Int32.ofInt 1)) = nI (s + 1) := dw_nI (by rw [e119]; omega) (by omega)
    have k2 : (y113 + m) = nI (df_st b t s + p) := dw_nI (by rw [e115]; omega) (by omega)
    rw [k1, k2]
    exact (df_e2 s hs _ (by omega)).1
set_option maxRecDepth 100000 in
theorem dw_isWhole {l : Launch} {G : ax_T} {d : Nat} {h : ax_H} {n : Nat} (hd : 2 ≤ d) (H : mc_HW h n) {cu c0 c1 c2 : Nat} {K : df_K} (hK : dw_K h cu c0 c1 c2 K) {b t s o : Nat} (hb : b < 15) (ht : t < 10) (hs : s < 14) (ho : o < 3) {S : Int32} (hS : S = df_E (b, t, s, o)) : mc_M l G d mt_X1_isWhole [.ref cu, .int S] h n (mc_P h n fun y => y.toInt = 1 ∧ df_wh K (b, t, s, o) ∨ y.toInt = 0 ∧ ¬ df_wh K (b, t, s, o)) := by
  obtain ⟨d, rfl⟩ : ∃ e, d = e + 1 := ⟨d - 1, by omega⟩
  have hmi : mt_X1_isWhole ∈ mt_prog := List.mem_of_getElem? mi_X1_isWhole
  obtain ⟨⟨u1, u2, u3, u4, u5, u6⟩, ⟨τs, uk⟩, hk⟩ := hK
  have hst := dw_st_le (b := b) (v := s) ht
  refine mc_to hmi rfl ?_
  show mc_R _ _ _ _ _ (0, [(0, .ref cu), (1, .int S)], [], h, n, 0, 0)
  refine mc_cx hmi 1 (F' := (1, [(0, .ref cu), (1, .int S)], [.int S], h, n, 0, 0)) (by with_unfolding_all rfl) ?_
  refine mc_callP hmi (en := (1, .invokestatic 38, 3, (3, 30, 0, 0), [614, 613])) rfl (q := (mt_X1_openIn, [.int S], [])) (by with_unfolding_all rfl) ⟨rfl, rfl⟩ (pc' := 4) rfl (dw_openIn (by omega) hb ht hs ho hS) (fun y120 e121 => ?_)
  refine mc_cx hmi 2 (F' := (6, [(2, .int y120), (0, .ref cu), (1, .int S)], [.int S], h, n, 0, 0)) (by with_unfolding_all rfl) ?_
  refine mc_callP hmi (en := (6, .invokestatic 46, 3, (3, 29, 0, 0), [627, 626])) rfl (q := (mt_X1_signIn, [.int S], [])) (by with_unfolding_all rfl) ⟨rfl, rfl⟩ (pc' := 9) rfl (dw_signIn (by omega) hb ht hs ho hS) (fun y122 e123 => ?_)
  refine mc_cx hmi 2 (F' := (11, [(3, .int y122), (2, .int y120), (0, .ref cu), (1, .int S)], [.int y120], h, n, 0, 0)) (by with_unfolding_all rfl) ?_
  refine mc_cz hmi (c := .eq) (tg := 30) (pc' := 14) rfl rfl rfl e121 (fun (q124 : (o : Int) = 0) => ?_) (fun (q124 : (o : Int) ≠ 0) => ?_)
  · refine mc_cx hmi 2 (F' := (35, [(3, .int y122), (2, .int y120), (0, .ref cu), (1, .int S)], [.int (Int32.ofInt 1)], h, n, 0, 0)) (by with_unfolding_all rfl) ?_
    exact mc_ret hmi rfl rfl (mc_rb (by decide)) ⟨rfl, rfl, _, rfl, Or.inl ⟨by decide, Or.inl (by show o = 0; omega)⟩⟩
  · refine mc_cx hmi 2 (F' := (16, [(3, .int y122), (2, .int y120), (0, .ref cu), (1, .int S)], [.int y122, .int S], h, n, 0, 0)) (by with_unfolding_all rfl) ?_
    refine mc_callP hmi (en := (16, .invokestatic 55, 3, (3, 27, 0, 0), [624, 623])) rfl (q := (mt_X1_standingOf, [.int S, .int y122], [])) (by with_unfolding_all rfl) ⟨rfl, rfl⟩ (pc' := 19) rfl (dw_standingOf (by omega) hb ht hs ho hS e123 hs) (fun y125 e126 => ?_)
    refine mc_cx hmi 3 (F' := (22, [(3, .int y122), (2, .int y120), (0, .ref cu), (1, .int S)], [.ref cu, .int (y125 + y120)], h, n, 0, 0)) (by with_unfolding_all rfl) ?_
    have e127 : (y125 + y120).toInt = (df_st b t s : Int) + (o : Int) := mc_add e126 e121 (by omega) (by omega)
    refine mc_getrC hmi H (k := cu) (j := 0) (pc' := 25) rfl u1.1 u2.1 u6.1 rfl ?_
    refine mc_cx hmi 1 (F' := (26, [(3, .int y122), (2, .int y120), (0, .ref cu), (1, .int S)], [.int y122, .ref c0, .int (y125 + y120)], h, n, 0, 0)) (by with_unfolding_all rfl) ?_
    refine mc_iald hmi H (k := c0) (i := (s : Int)) (pc' := 27) rfl u1.2.1 u3.1 e123 (by omega) (by omega) rfl (fun y128 e129 r1 r2 => ?_)
    have hc := (hk s hs).1
    rw [hc] at e129
    refine mc_ci hmi (c := .gt) (tg := 34) (pc' := 30) rfl rfl rfl e127 e129 (fun (q130 : (K.1 s : Int) < ((df_st b t s : Int) + (o : Int))) => ?_) (fun (q130 : ((df_st b t s : Int) + (o : Int)) ≤ (K.1 s : Int)) => ?_)
    · refine mc_cx hmi 1 (F' := (35, [(3, .int y122), (2, .int y120), (0, .ref cu), (1, .int S)], [.int (Int32.ofInt 0)], h, n, 0, 0)) (by with_unfolding_all rfl) ?_
      exact mc_ret hmi rfl rfl (mc_rb (by decide)) ⟨rfl, rfl, _, rfl, Or.inr ⟨by decide, fun z => z.elim (fun q => absurd (show o = 0 from q) (by omega)) (fun q => absurd (show df_st b t s + o ≤ K.1 s from q) (by omega))⟩⟩
    · refine mc_cx hmi 2 (F' := (35, [(3, .int y122), (2, .int y120), (0, .ref cu), (1, .int S)], [.int (Int32.ofInt 1)], h, n, 0, 0)) (by with_unfolding_all rfl) ?_
      exact mc_ret hmi rfl rfl (mc_rb (by decide)) ⟨rfl, rfl, _, rfl, Or.inl ⟨by decide, Or.inr (by show df_st b t s + o ≤ K.1 s; omega)⟩⟩
set_option maxRecDepth 100000 in
theorem dw_closeTaking {l : Launch} {G : ax_T} {d : Nat} {h : ax_H} {n : Nat} (hd : 2 ≤ d) (H : mc_HW h n) {cu c0 c1 c2 : Nat} {K : df_K} (hK : dw_K h cu c0 c1 c2 K) {b t s o : Nat} (hb : b < 15) (ht : t < 10) (hs : s < 14) (ho : o < 3) {S x : Int32} {v : Nat} (hS : S = df_E (b, t, s, o)) (hx : x.toInt = (v : Int)) (hv : v < 14) : mc_M l G d mt_X1_closeTaking [.ref cu, .int S, .int x] h n (mc_P h n fun y => dw_o y (if df_ta K s o v = true ∧ v < b then some (s, 0, 0, 0) else none)) := by
  obtain ⟨d, rfl⟩ : ∃ e, d = e + 1 := ⟨d - 1, by omega⟩
  have hmi : mt_X1_closeTaking ∈ mt_prog := List.mem_of_getElem? mi_X1_closeTaking
  have hK' := hK
  obtain ⟨⟨u1, u2, u3, u4, u5, u6⟩, ⟨τs, uk⟩, hk⟩ := hK
  refine mc_to hmi rfl ?_
  show mc_R _ _ _ _ _ (0, [(0, .ref cu), (1, .int S), (2, .int x)], [], h, n, 0, 0)
  refine mc_cx hmi 1 (F' := (1, [(0, .ref cu), (1, .int S), (2, .int x)], [.int S], h, n, 0, 0)) (by with_unfolding_all rfl) ?_
  refine mc_callP hmi (en := (1, .invokestatic 46, 3, (3, 29, 0, 0), [627, 626])) rfl (q := (mt_X1_signIn, [.int S], [])) (by with_unfolding_all rfl) ⟨rfl, rfl⟩ (pc' := 4) rfl (dw_signIn (by omega) hb ht hs ho hS) (fun y131 e132 => ?_)
  refine mc_cx hmi 2 (F' := (6, [(3, .int y131), (0, .ref cu), (1, .int S), (2, .int x)], [.int S], h, n, 0, 0)) (by with_unfolding_all rfl) ?_
  refine mc_callP hmi (en := (6, .invokestatic 38, 3, (3, 30, 0, 0), [614, 613])) rfl (q := (mt_X1_openIn, [.int S], [])) (by with_unfolding_all rfl) ⟨rfl, rfl⟩ (pc' := 9) rfl (dw_openIn (by omega) hb ht hs ho hS) (fun y133 e134 => ?_)
  refine mc_cx hmi 1 (F' := (10, [(3, .int y131), (0, .ref cu), (1, .int S), (2, .int x)], [.int (Int32.ofInt 1), .int y133], h, n, 0, 0)) (by with_unfolding_all rfl) ?_
  refine mc_ci hmi (c := .ne) (tg := 22) (pc' := 13) rfl rfl rfl e134 (by decide) (fun (q135 : (o : Int) ≠ 1) => ?_) (fun (q135 : (o : Int) = 1) => ?_)
  · have hta : df_ta K s o v = K.2.2 s v := by unfold df_ta; rw [if_neg (by omega)]
    refine mc_cx hmi 3 (F' := (25, [(3, .int y131), (0, .ref cu), (1, .int S), (2, .int x)], [.int x, .int y131, .ref cu], h, n, 0, 0)) (by with_unfolding_all rfl) ?_
    refine mc_callP hmi (en := (25, .invokevirtual 65, 3, (3, 26, 1, 0), [639, 7, 637])) rfl (q := (mt_X1_mayTakeTwice, [.ref cu, .int y131, .int x], [])) (mc_inv H (as := [.int y131, .int x]) (rest := []) rfl (by with_unfolding_all rfl) u1.1 uk rfl) ⟨rfl, rfl⟩ (pc' := 28) rfl (dw_mayTwice (by omega) H hK' e132 hs hx hv) (fun y136 e137 => ?_)
    refine mc_cx hmi 2 (F' := (32, [(4, .int y136), (3, .int y131), (0, .ref cu), (1, .int S), (2, .int x)], [.int y136], h, n, 0, 0)) (by with_unfolding_all rfl) ?_
    refine mc_cz hmi (c := .eq) (tg := 47) (pc' := 35) rfl rfl rfl rfl (fun (q138 : y136.toInt = 0) => ?_) (fun (q138 : y136.toInt ≠ 0) => ?_)
    · refine mc_cx hmi 1 (F' := (48, [(4, .int y136), (3, .int y131), (0, .ref cu), (1, .int S), (2, .int x)], [.int (Int32.ofInt (-1))], h, n, 0, 0)) (by with_unfolding_all rfl) ?_
      refine mc_ret hmi rfl rfl rfl ⟨rfl, rfl, _, rfl, ?_⟩
      rw [if_neg (fun q => by rw [hta] at q; exact e137.elim (fun u => absurd u.1 (by omega)) (fun u => absurd q.1 (by rw [u.2]; decide)))]
      rfl
    · refine mc_cx hmi 2 (F' := (37, [(4, .int y136), (3, .int y131), (0, .ref cu), (1, .int S), (2, .int x)], [.int S, .int x], h, n, 0, 0)) (by with_unfolding_all rfl) ?_
      refine mc_callP hmi (en := (37, .invokestatic 58, 3, (3, 28, 0, 0), [621, 620])) rfl (q := (mt_X1_belowIn, [.int S], [.int x])) (by with_unfolding_all rfl) ⟨rfl, rfl⟩ (pc' := 40) rfl (dw_belowIn (by omega) hb ht hs ho hS) (fun y139 e140 => ?_)
      refine mc_ci hmi (c := .ge) (tg := 47) (pc' := 43) rfl rfl rfl hx e140 (fun (q141 : (b : Int) ≤ (v : Int)) => ?_) (fun (q141 : (v : Int) < (b : Int)) => ?_)
      · refine mc_cx hmi 1 (F' := (48, [(4, .int y136), (3, .int y131), (0, .ref cu), (1, .int S), (2, .int x)], [.int (Int32.ofInt (-1))], h, n, 0, 0)) (by with_unfolding_all rfl) ?_
        refine mc_ret hmi rfl rfl rfl ⟨rfl, rfl, _, rfl, ?_⟩
        rw [if_neg (fun q => absurd q.2 (by omega))]
        rfl
      · refine mc_cx hmi 2 (F' := (48, [(4, .int y136), (3, .int y131), (0, .ref cu), (1, .int S), (2, .int x)], [.int y131], h, n, 0, 0)) (by with_unfolding_all rfl) ?_
        refine mc_ret hmi rfl rfl rfl ⟨rfl, rfl, _, rfl, ?_⟩
        rw [if_pos (And.intro (hta.trans (e137.elim (fun u => u.2) (fun u => absurd u.1 q138))) (by omega))]
        exact ⟨(dw_nI e132 (by omega)).trans (df_e2 s hs 0 (by decide)).2, (by omega : s ≤ 14), Nat.zero_le _, Nat.zero_le _, Nat.zero_le _⟩
  · have hta : df_ta K s o v = K.2.1 s v := by unfold df_ta; rw [if_pos (by omega)]
    refine mc_cx hmi 3 (F' := (16, [(3, .int y131), (0, .ref cu), (1, .int S), (2, .int x)], [.int x, .int y131, .ref cu], h, n, 0, 0)) (by with_unfolding_all rfl) ?_
    refine mc_callP hmi (en := (16, .invokevirtual 61, 3, (3, 25, 1, 0), [635, 6, 633])) rfl (q := (mt_X1_mayTakeOnce, [.ref cu, .int y131, .int x], [])) (mc_inv H (as := [.int y131, .int x]) (rest := []) rfl (by with_unfolding_all rfl) u1.1 uk rfl) ⟨rfl, rfl⟩ (pc' := 19) rfl (dw_mayOnce (by omega) H hK' e132 hs hx hv) (fun y142 e143 => ?_)
    refine mc_cx hmi 3 (F' := (32, [(4, .int y142), (3, .int y131), (0, .ref cu), (1, .int S), (2, .int x)], [.int y142], h, n, 0, 0)) (by with_unfolding_all rfl) ?_
    refine mc_cz hmi (c := .eq) (tg := 47) (pc' := 35) rfl rfl rfl rfl (fun (q144 : y142.toInt = 0) => ?_) (fun (q144 : y142.toInt ≠ 0) => ?_)
    · refine mc_cx hmi 1 (F' := (48, [(4, .int y142), (3, .int y131), (0, .ref cu), (1, .int S), (2, .int x)], [.int (Int32.ofInt (-1))], h, n, 0, 0)) (by with_unfolding_all rfl) ?_
      refine mc_ret hmi rfl rfl rfl ⟨rfl, rfl, _, rfl, ?_⟩
      rw [if_neg (fun q => by rw [hta] at q; exact e143.elim (fun u => absurd u.1 (by omega)) (fun u => absurd q.1 (by rw [u.2]; decide)))]
      rfl
    · refine mc_cx hmi 2 (F' := (37, [(4, .int y142), (3, .int y131), (0, .ref cu), (1, .int S), (2, .int x)], [.int S, .int x], h, n, 0, 0)) (by with_unfolding_all rfl) ?_
      refine mc_callP hmi (en := (37, .invokestatic 58, 3, (3, 28, 0, 0), [621, 620])) rfl (q := (mt_X1_belowIn, [.int S], [.int x])) (by with_unfolding_all rfl) ⟨rfl, rfl⟩ (pc' := 40) rfl (dw_belowIn (by omega) hb ht hs ho hS) (fun y145 e146 => ?_)
      refine mc_ci hmi (c := .ge) (tg := 47) (pc' := 43) rfl rfl rfl hx e146 (fun (q147 : (b : Int) ≤ (v : Int)) => ?_) (fun (q147 : (v : Int) < (b : Int)) => ?_)
      · refine mc_cx hmi 1 (F' := (48, [(4, .int y142), (3, .int y131), (0, .ref cu), (1, .int S), (2, .int x)], [.int (Int32.ofInt (-1))], h, n, 0, 0)) (by with_unfolding_all rfl) ?_
        refine mc_ret hmi rfl rfl rfl ⟨rfl, rfl, _, rfl, ?_⟩
        rw [if_neg (fun q => absurd q.2 (by omega))]
        rfl
      · refine mc_cx hmi 2 (F' := (48, [(4, .int y142), (3, .int y131), (0, .ref cu), (1, .int S), (2, .int x)], [.int y131], h, n, 0, 0)) (by with_unfolding_all rfl) ?_
        refine mc_ret hmi rfl rfl rfl ⟨rfl, rfl, _, rfl, ?_⟩
        rw [if_pos (And.intro (hta.trans (e143.elim (fun u => u.2) (fun u => absurd u.1 q144))) (by omega))]
        exact ⟨(dw_nI e132 (by omega)).trans (df_e2 s hs 0 (by decide)).2, (by omega : s ≤ 14), Nat.zero_le _, Nat.zero_le _, Nat.zero_le _⟩
set_option maxHeartbeats 4000000 in
set_option maxRecDepth 100000 in
theorem dw_leaveOpen {l : Launch} {G : ax_T} {d : Nat} {h : ax_H} {n : Nat} (hd : 2 ≤ d) (H : mc_HW h n) {cu c0 c1 c2 : Nat} {K : df_K} (hK : dw_K h cu c0 c1 c2 K) {b t s o : Nat} (hb : b < 15) (ht : t < 10) (hs : s < 14) (ho : o < 3) {S x m : Int32} {v p : Nat} (hS : S = df_E (b, t, s, o)) (hx : x.toInt = (v : Int)) (hv : v < 14) (hm : m.toInt = (p : Int)) (hp : p = 1 ∨ p = 2) : mc_M l G d mt_X1_leaveOpen [.ref cu, .int S, .int x, .int m] h n (mc_P h n fun y => dw_o y (df_lv K b t v p)) := by
  obtain ⟨d, rfl⟩ : ∃ e, d = e + 1 := ⟨d - 1, by omega⟩
  have hmi : mt_X1_leaveOpen ∈ mt_prog := List.mem_of_getElem? mi_X1_leaveOpen
  obtain ⟨⟨u1, u2, u3, u4, u5, u6⟩, ⟨τs, uk⟩, hk⟩ := hK
  have hst := dw_st_le (b := b) (v := v) ht
  refine mc_to hmi rfl ?_
  show mc_R _ _ _ _ _ (0, [(0, .ref cu), (1, .int S), (2, .int x), (3, .int m)], [], h, n, 0, 0)
  refine mc_cx hmi 1 (F' := (1, [(0, .ref cu), (1, .int S), (2, .int x), (3, .int m)], [.int S], h, n, 0, 0)) (by with_unfolding_all rfl) ?_
  refine mc_callP hmi (en := (1, .invokestatic 58, 3, (3, 28, 0, 0), [621, 620])) rfl (q := (mt_X1_belowIn, [.int S], [])) (by with_unfolding_all rfl) ⟨rfl, rfl⟩ (pc' := 4) rfl (dw_belowIn (by omega) hb ht hs ho hS) (fun y148 e149 => ?_)
  refine mc_cx hmi 3 (F' := (9, [(4, .int y148), (0, .ref cu), (1, .int S), (2, .int x), (3, .int m)], [.int y148, .int x], h, n, 0, 0)) (by with_unfolding_all rfl) ?_
  refine mc_ci hmi (c := .lt) (tg := 14) (pc' := 12) rfl rfl rfl hx e149 (fun (q150 : (v : Int) < (b : Int)) => ?_) (fun (q150 : (b : Int) ≤ (v : Int)) => ?_)
  · have hvb : ¬ b ≤ v := by omega
    refine mc_cx hmi 2 (F' := (16, [(4, .int y148), (0, .ref cu), (1, .int S), (2, .int x), (3, .int m)], [.int (Int32.ofInt 1), .int m], h, n, 0, 0)) (by with_unfolding_all rfl) ?_
    refine mc_ci hmi (c := .ne) (tg := 35) (pc' := 19) rfl rfl rfl hm (by decide) (fun (q151 : (p : Int) ≠ 1) => ?_) (fun (q151 : (p : Int) = 1) => ?_)
    · refine mc_cx hmi 1 (F' := (36, [(4, .int y148), (0, .ref cu), (1, .int S), (2, .int x), (3, .int m)], [.ref cu], h, n, 0, 0)) (by with_unfolding_all rfl) ?_
      refine mc_getrC hmi H (k := cu) (j := 2) (pc' := 39) rfl u1.1 u2.2.2 u6.2.2 rfl ?_
      refine mc_cx hmi 1 (F' := (40, [(4, .int y148), (0, .ref cu), (1, .int S), (2, .int x), (3, .int m)], [.int x, .ref c2], h, n, 0, 0)) (by with_unfolding_all rfl) ?_
      refine mc_iald hmi H (k := c2) (i := (v : Int)) (pc' := 41) rfl u1.2.2.2 u3.2.2 hx (by omega) (by omega) rfl (fun y152 e153 r1 r2 => ?_)
      have hb2 : ∀ i : Nat, bt y152 i = K.2.2 v i := fun i => by rw [← (hk v hv).2.2.2 i, ← e153, Int32.ofInt_toInt]
      have hh : (∃ j, j < b ∧ bt y152 j = true) ↔ df_hd K b v p = true := by
        rw [df_hd_iff]
        exact ⟨fun ⟨j, a, c⟩ => ⟨j, a, Or.inr ((hb2 j).symm.trans c)⟩, fun ⟨j, a, c⟩ => ⟨j, a, (hb2 j).trans (c.elim (fun u => absurd u.1 (by omega)) id)⟩⟩
      refine mc_cx hmi 8 (F' := (52, [(5, .int y152), (4, .int y148), (0, .ref cu), (1, .int S), (2, .int x), (3, .int m)], [.int (y152 &&& (((Int32.ofInt 1) <<< (y148 &&& 31)) - (Int32.ofInt 1)))], h, n, 0, 0)) (by with_unfolding_all rfl) ?_
      have hmask := (bt_m y152 hb e149).trans hh
      clear hh
      refine mc_cz hmi (c := .eq) (tg := 59) (pc' := 55) rfl rfl rfl rfl (fun (q154 : ((y152 &&& (((Int32.ofInt 1) <<< (y148 &&& 31)) - (Int32.ofInt 1)))).toInt = 0) => ?_) (fun (q154 : ((y152 &&& (((Int32.ofInt 1) <<< (y148 &&& 31)) - (Int32.ofInt 1)))).toInt ≠ 0) => ?_)
      · have hcan : ¬ df_hd K b v p = true := fun u => hmask.mpr u q154
        clear hmask
        refine mc_cx hmi 4 (F' := (64, [(6, .int (Int32.ofInt 0)), (5, .int y152), (4, .int y148), (0, .ref cu), (1, .int S), (2, .int x), (3, .int m)], [.int x, .int S], h, n, 0, 0)) (by with_unfolding_all rfl) ?_
        refine mc_callP hmi (en := (64, .invokestatic 55, 3, (3, 27, 0, 0), [624, 623])) rfl (q := (mt_X1_standingOf, [.int S, .int x], [])) (by with_unfolding_all rfl) ⟨rfl, rfl⟩ (pc' := 67) rfl (dw_standingOf (by omega) hb ht hs ho hS hx hv) (fun y155 e156 => ?_)
        refine mc_cx hmi 3 (F' := (70, [(6, .int (Int32.ofInt 0)), (5, .int y152), (4, .int y148), (0, .ref cu), (1, .int S), (2, .int x), (3, .int m)], [.ref cu, .int (y155 + m)], h, n, 0, 0)) (by with_unfolding_all rfl) ?_
        have e157 : (y155 + m).toInt = (df_st b t v : Int) + (p : Int) := mc_add e156 hm (by omega) (by omega)
        refine mc_getrC hmi H (k := cu) (j := 0) (pc' := 73) rfl u1.1 u2.1 u6.1 rfl ?_
        refine mc_cx hmi 1 (F' := (74, [(6, .int (Int32.ofInt 0)), (5, .int y152), (4, .int y148), (0, .ref cu), (1, .int S), (2, .int x), (3, .int m)], [.int x, .ref c0, .int (y155 + m)], h, n, 0, 0)) (by with_unfolding_all rfl) ?_
        refine mc_iald hmi H (k := c0) (i := (v : Int)) (pc' := 75) rfl u1.2.1 u3.1 hx (by omega) (by omega) rfl (fun y158 e159 r1 r2 => ?_)
        have hc := (hk v hv).1
        rw [hc] at e159
        refine mc_ci hmi (c := .gt) (tg := 82) (pc' := 78) rfl rfl rfl e157 e159 (fun (q160 : (K.1 v : Int) < ((df_st b t v : Int) + (p : Int))) => ?_) (fun (q160 : ((df_st b t v : Int) + (p : Int)) ≤ (K.1 v : Int)) => ?_)
        · refine mc_cx hmi 3 (F' := (87, [(7, .int (Int32.ofInt 0)), (6, .int (Int32.ofInt 0)), (5, .int y152), (4, .int y148), (0, .ref cu), (1, .int S), (2, .int x), (3, .int m)], [.int (Int32.ofInt 0)], h, n, 0, 0)) (by with_unfolding_all rfl) ?_
          refine mc_cz hmi (c := .ne) (tg := 97) (pc' := 90) rfl rfl rfl (by decide) (fun (q161 : (0 : Int) ≠ 0) => ?_) (fun (q161 : (0 : Int) = 0) => ?_)
          · exact absurd rfl q161
          · refine mc_cx hmi 1 (F' := (92, [(7, .int (Int32.ofInt 0)), (6, .int (Int32.ofInt 0)), (5, .int y152), (4, .int y148), (0, .ref cu), (1, .int S), (2, .int x), (3, .int m)], [.int (Int32.ofInt 0)], h, n, 0, 0)) (by with_unfolding_all rfl) ?_
            refine mc_cz hmi (c := .ne) (tg := 97) (pc' := 95) rfl rfl rfl (by decide) (fun (q162 : (0 : Int) ≠ 0) => ?_) (fun (q162 : (0 : Int) = 0) => ?_)
            · exact absurd rfl q162
            · refine mc_cx hmi 1 (F' := (96, [(7, .int (Int32.ofInt 0)), (6, .int (Int32.ofInt 0)), (5, .int y152), (4, .int y148), (0, .ref cu), (1, .int S), (2, .int x), (3, .int m)], [.int (Int32.ofInt (-1))], h, n, 0, 0)) (by with_unfolding_all rfl) ?_
              refine mc_ret hmi rfl rfl rfl ⟨rfl, rfl, _, rfl, ?_⟩
              unfold df_lv
              rw [if_neg hvb, if_neg (fun q => q.elim hcan (fun r => absurd r (by omega)))]
              rfl
        · refine mc_cx hmi 4 (F' := (87, [(7, .int (Int32.ofInt 1)), (6, .int (Int32.ofInt 0)), (5, .int y152), (4, .int y148), (0, .ref cu), (1, .int S), (2, .int x), (3, .int m)], [.int (Int32.ofInt 0)], h, n, 0, 0)) (by with_unfolding_all rfl) ?_
          refine mc_cz hmi (c := .ne) (tg := 97) (pc' := 90) rfl rfl rfl (by decide) (fun (q163 : (0 : Int) ≠ 0) => ?_) (fun (q163 : (0 : Int) = 0) => ?_)
          · exact absurd rfl q163
          · refine mc_cx hmi 1 (F' := (92, [(7, .int (Int32.ofInt 1)), (6, .int (Int32.ofInt 0)), (5, .int y152), (4, .int y148), (0, .ref cu), (1, .int S), (2, .int x), (3, .int m)], [.int (Int32.ofInt 1)], h, n, 0, 0)) (by with_unfolding_all rfl) ?_
            refine mc_cz hmi (c := .ne) (tg := 97) (pc' := 95) rfl rfl rfl (by decide) (fun (q164 : (1 : Int) ≠ 0) => ?_) (fun (q164 : (1 : Int) = 0) => ?_)
            · refine mc_cx hmi 13 (F' := (116, [(8, .int (S &&& (Int16.ofInt 255).toInt32)), (7, .int (Int32.ofInt 1)), (6, .int (Int32.ofInt 0)), (5, .int y152), (4, .int y148), (0, .ref cu), (1, .int S), (2, .int x), (3, .int m)], [.int (((S &&& (Int16.ofInt 255).toInt32) ||| (x <<< ((Int8.ofInt 8).toInt32 &&& 31))) ||| (m <<< ((Int8.ofInt 12).toInt32 &&& 31)))], h, n, 0, 0)) (by with_unfolding_all rfl) ?_
              refine mc_ret hmi rfl rfl rfl ⟨rfl, rfl, _, rfl, ?_⟩
              unfold df_lv
              rw [if_neg hvb, if_pos (Or.inr (by omega))]
              have k1 : x = nI v := dw_nI hx (by omega)
              have k2 : m = nI p := dw_nI hm (by omega)
              refine ⟨?_, (by omega : b ≤ 14), (by omega : t ≤ 9), (by omega : v ≤ 13), (by omega : p ≤ 2)⟩
              rw [k1, k2, hS, (df_e1 b hb t ht s hs o ho).1]
              exact (df_e1 b hb t ht v hv p (by omega)).2
            · exact absurd q164 (by decide)
      · have hcan : df_hd K b v p = true := hmask.mp q154
        clear hmask
        refine mc_cx hmi 5 (F' := (64, [(6, .int (Int32.ofInt 1)), (5, .int y152), (4, .int y148), (0, .ref cu), (1, .int S), (2, .int x), (3, .int m)], [.int x, .int S], h, n, 0, 0)) (by with_unfolding_all rfl) ?_
        refine mc_callP hmi (en := (64, .invokestatic 55, 3, (3, 27, 0, 0), [624, 623])) rfl (q := (mt_X1_standingOf, [.int S, .int x], [])) (by with_unfolding_all rfl) ⟨rfl, rfl⟩ (pc' := 67) rfl (dw_standingOf (by omega) hb ht hs ho hS hx hv) (fun y165 e166 => ?_)
        refine mc_cx hmi 3 (F' := (70, [(6, .int (Int32.ofInt 1)), (5, .int y152), (4, .int y148), (0, .ref cu), (1, .int S), (2, .int x), (3, .int m)], [.ref cu, .int (y165 + m)], h, n, 0, 0)) (by with_unfolding_all rfl) ?_
        have e167 : (y165 + m).toInt = (df_st b t v : Int) + (p : Int) := mc_add e166 hm (by omega) (by omega)
        refine mc_getrC hmi H (k := cu) (j := 0) (pc' := 73) rfl u1.1 u2.1 u6.1 rfl ?_
        refine mc_cx hmi 1 (F' := (74, [(6, .int (Int32.ofInt 1)), (5, .int y152), (4, .int y148), (0, .ref cu), (1, .int S), (2, .int x), (3, .int m)], [.int x, .ref c0, .int (y165 + m)], h, n, 0, 0)) (by with_unfolding_all rfl) ?_
        refine mc_iald hmi H (k := c0) (i := (v : Int)) (pc' := 75) rfl u1.2.1 u3.1 hx (by omega) (by omega) rfl (fun y168 e169 r1 r2 => ?_)
        have hc := (hk v hv).1
        rw [hc] at e169
        refine mc_ci hmi (c := .gt) (tg := 82) (pc' := 78) rfl rfl rfl e167 e169 (fun (q170 : (K.1 v : Int) < ((df_st b t v : Int) + (p : Int))) => ?_) (fun (q170 : ((df_st b t v : Int) + (p : Int)) ≤ (K.1 v : Int)) => ?_)
        · refine mc_cx hmi 3 (F' := (87, [(7, .int (Int32.ofInt 0)), (6, .int (Int32.ofInt 1)), (5, .int y152), (4, .int y148), (0, .ref cu), (1, .int S), (2, .int x), (3, .int m)], [.int (Int32.ofInt 1)], h, n, 0, 0)) (by with_unfolding_all rfl) ?_
          refine mc_cz hmi (c := .ne) (tg := 97) (pc' := 90) rfl rfl rfl (by decide) (fun (q171 : (1 : Int) ≠ 0) => ?_) (fun (q171 : (1 : Int) = 0) => ?_)
          · refine mc_cx hmi 13 (F' := (116, [(8, .int (S &&& (Int16.ofInt 255).toInt32)), (7, .int (Int32.ofInt 0)), (6, .int (Int32.ofInt 1)), (5, .int y152), (4, .int y148), (0, .ref cu), (1, .int S), (2, .int x), (3, .int m)], [.int (((S &&& (Int16.ofInt 255).toInt32) ||| (x <<< ((Int8.ofInt 8).toInt32 &&& 31))) ||| (m <<< ((Int8.ofInt 12).toInt32 &&& 31)))], h, n, 0, 0)) (by with_unfolding_all rfl) ?_
            refine mc_ret hmi rfl rfl rfl ⟨rfl, rfl, _, rfl, ?_⟩
            unfold df_lv
            rw [if_neg hvb, if_pos (Or.inl hcan)]
            have k1 : x = nI v := dw_nI hx (by omega)
            have k2 : m = nI p := dw_nI hm (by omega)
            refine ⟨?_, (by omega : b ≤ 14), (by omega : t ≤ 9), (by omega : v ≤ 13), (by omega : p ≤ 2)⟩
            rw [k1, k2, hS, (df_e1 b hb t ht s hs o ho).1]
            exact (df_e1 b hb t ht v hv p (by omega)).2
          · exact absurd q171 (by decide)
        · refine mc_cx hmi 4 (F' := (87, [(7, .int (Int32.ofInt 1)), (6, .int (Int32.ofInt 1)), (5, .int y152), (4, .int y148), (0, .ref cu), (1, .int S), (2, .int x), (3, .int m)], [.int (Int32.ofInt 1)], h, n, 0, 0)) (by with_unfolding_all rfl) ?_
          refine mc_cz hmi (c := .ne) (tg := 97) (pc' := 90) rfl rfl rfl (by decide) (fun (q172 : (1 : Int) ≠ 0) => ?_) (fun (q172 : (1 : Int) = 0) => ?_)
          · refine mc_cx hmi 13 (F' := (116, [(8, .int (S &&& (Int16.ofInt 255).toInt32)), (7, .int (Int32.ofInt 1)), (6, .int (Int32.ofInt 1)), (5, .int y152), (4, .int y148), (0, .ref cu), (1, .int S), (2, .int x), (3, .int m)], [.int (((S &&& (Int16.ofInt 255).toInt32) ||| (x <<< ((Int8.ofInt 8).toInt32 &&& 31))) ||| (m <<< ((Int8.ofInt 12).toInt32 &&& 31)))], h, n, 0, 0)) (by with_unfolding_all rfl) ?_
            refine mc_ret hmi rfl rfl rfl ⟨rfl, rfl, _, rfl, ?_⟩
            unfold df_lv
            rw [if_neg hvb, if_pos (Or.inl hcan)]
            have k1 : x = nI v := dw_nI hx (by omega)
            have k2 : m = nI p := dw_nI hm (by omega)
            refine ⟨?_, (by omega : b ≤ 14), (by omega : t ≤ 9), (by omega : v ≤ 13), (by omega : p ≤ 2)⟩
            rw [k1, k2, hS, (df_e1 b hb t ht s hs o ho).1]
            exact (df_e1 b hb t ht v hv p (by omega)).2
          · exact absurd q172 (by decide)
    · refine mc_cx hmi 1 (F' := (20, [(4, .int y148), (0, .ref cu), (1, .int S), (2, .int x), (3, .int m)], [.ref cu], h, n, 0, 0)) (by with_unfolding_all rfl) ?_
      refine mc_getrC hmi H (k := cu) (j := 1) (pc' := 23) rfl u1.1 u2.2.1 u6.2.1 rfl ?_
      refine mc_cx hmi 1 (F' := (24, [(4, .int y148), (0, .ref cu), (1, .int S), (2, .int x), (3, .int m)], [.int x, .ref c1], h, n, 0, 0)) (by with_unfolding_all rfl) ?_
      refine mc_iald hmi H (k := c1) (i := (v : Int)) (pc' := 25) rfl u1.2.2.1 u3.2.1 hx (by omega) (by omega) rfl (fun y173 e174 r1 r2 => ?_)
      have hb1 : ∀ i : Nat, bt y173 i = K.2.1 v i := fun i => by rw [← (hk v hv).2.2.1 i, ← e174, Int32.ofInt_toInt]
      refine mc_cx hmi 1 (F' := (26, [(4, .int y148), (0, .ref cu), (1, .int S), (2, .int x), (3, .int m)], [.ref cu, .int y173], h, n, 0, 0)) (by with_unfolding_all rfl) ?_
      refine mc_getrC hmi H (k := cu) (j := 2) (pc' := 29) rfl u1.1 u2.2.2 u6.2.2 rfl ?_
      refine mc_cx hmi 1 (F' := (30, [(4, .int y148), (0, .ref cu), (1, .int S), (2, .int x), (3, .int m)], [.int x, .ref c2, .int y173], h, n, 0, 0)) (by with_unfolding_all rfl) ?_
      refine mc_iald hmi H (k := c2) (i := (v : Int)) (pc' := 31) rfl u1.2.2.2 u3.2.2 hx (by omega) (by omega) rfl (fun y175 e176 r1 r2 => ?_)
      have hb2 : ∀ i : Nat, bt y175 i = K.2.2 v i := fun i => by rw [← (hk v hv).2.2.2 i, ← e176, Int32.ofInt_toInt]
      refine mc_cx hmi 2 (F' := (41, [(4, .int y148), (0, .ref cu), (1, .int S), (2, .int x), (3, .int m)], [.int (y173 ||| y175)], h, n, 0, 0)) (by with_unfolding_all rfl) ?_
      have hh : (∃ j, j < b ∧ bt (y173 ||| y175) j = true) ↔ df_hd K b v p = true := by
        rw [df_hd_iff]
        have hj : ∀ j, bt (y173 ||| y175) j = (K.2.1 v j || K.2.2 v j) := fun j => by rw [bt_or, hb1, hb2]
        exact ⟨fun ⟨j, a, c⟩ => ⟨j, a, by rw [hj j, Bool.or_eq_true] at c; exact c.elim (fun u => Or.inl ⟨by omega, u⟩) Or.inr⟩, fun ⟨j, a, c⟩ => ⟨j, a, by rw [hj j, Bool.or_eq_true]; exact c.imp (fun u => u.2) id⟩⟩
      refine mc_cx hmi 8 (F' := (52, [(5, .int (y173 ||| y175)), (4, .int y148), (0, .ref cu), (1, .int S), (2, .int x), (3, .int m)], [.int ((y173 ||| y175) &&& (((Int32.ofInt 1) <<< (y148 &&& 31)) - (Int32.ofInt 1)))], h, n, 0, 0)) (by with_unfolding_all rfl) ?_
      have hmask := (bt_m (y173 ||| y175) hb e149).trans hh
      clear hh
      refine mc_cz hmi (c := .eq) (tg := 59) (pc' := 55) rfl rfl rfl rfl (fun (q177 : (((y173 ||| y175) &&& (((Int32.ofInt 1) <<< (y148 &&& 31)) - (Int32.ofInt 1)))).toInt = 0) => ?_) (fun (q177 : (((y173 ||| y175) &&& (((Int32.ofInt 1) <<< (y148 &&& 31)) - (Int32.ofInt 1)))).toInt ≠ 0) => ?_)
      · have hcan : ¬ df_hd K b v p = true := fun u => hmask.mpr u q177
        clear hmask
        refine mc_cx hmi 4 (F' := (64, [(6, .int (Int32.ofInt 0)), (5, .int (y173 ||| y175)), (4, .int y148), (0, .ref cu), (1, .int S), (2, .int x), (3, .int m)], [.int x, .int S], h, n, 0, 0)) (by with_unfolding_all rfl) ?_
        refine mc_callP hmi (en := (64, .invokestatic 55, 3, (3, 27, 0, 0), [624, 623])) rfl (q := (mt_X1_standingOf, [.int S, .int x], [])) (by with_unfolding_all rfl) ⟨rfl, rfl⟩ (pc' := 67) rfl (dw_standingOf (by omega) hb ht hs ho hS hx hv) (fun y178 e179 => ?_)
        refine mc_cx hmi 3 (F' := (70, [(6, .int (Int32.ofInt 0)), (5, .int (y173 ||| y175)), (4, .int y148), (0, .ref cu), (1, .int S), (2, .int x), (3, .int m)], [.ref cu, .int (y178 + m)], h, n, 0, 0)) (by with_unfolding_all rfl) ?_
        have e180 : (y178 + m).toInt = (df_st b t v : Int) + (p : Int) := mc_add e179 hm (by omega) (by omega)
        refine mc_getrC hmi H (k := cu) (j := 0) (pc' := 73) rfl u1.1 u2.1 u6.1 rfl ?_
        refine mc_cx hmi 1 (F' := (74, [(6, .int (Int32.ofInt 0)), (5, .int (y173 ||| y175)), (4, .int y148), (0, .ref cu), (1, .int S), (2, .int x), (3, .int m)], [.int x, .ref c0, .int (y178 + m)], h, n, 0, 0)) (by with_unfolding_all rfl) ?_
        refine mc_iald hmi H (k := c0) (i := (v : Int)) (pc' := 75) rfl u1.2.1 u3.1 hx (by omega) (by omega) rfl (fun y181 e182 r1 r2 => ?_)
        have hc := (hk v hv).1
        rw [hc] at e182
        refine mc_ci hmi (c := .gt) (tg := 82) (pc' := 78) rfl rfl rfl e180 e182 (fun (q183 : (K.1 v : Int) < ((df_st b t v : Int) + (p : Int))) => ?_) (fun (q183 : ((df_st b t v : Int) + (p : Int)) ≤ (K.1 v : Int)) => ?_)
        · refine mc_cx hmi 3 (F' := (87, [(7, .int (Int32.ofInt 0)), (6, .int (Int32.ofInt 0)), (5, .int (y173 ||| y175)), (4, .int y148), (0, .ref cu), (1, .int S), (2, .int x), (3, .int m)], [.int (Int32.ofInt 0)], h, n, 0, 0)) (by with_unfolding_all rfl) ?_
          refine mc_cz hmi (c := .ne) (tg := 97) (pc' := 90) rfl rfl rfl (by decide) (fun (q184 : (0 : Int) ≠ 0) => ?_) (fun (q184 : (0 : Int) = 0) => ?_)
          · exact absurd rfl q184
          · refine mc_cx hmi 1 (F' := (92, [(7, .int (Int32.ofInt 0)), (6, .int (Int32.ofInt 0)), (5, .int (y173 ||| y175)), (4, .int y148), (0, .ref cu), (1, .int S), (2, .int x), (3, .int m)], [.int (Int32.ofInt 0)], h, n, 0, 0)) (by with_unfolding_all rfl) ?_
            refine mc_cz hmi (c := .ne) (tg := 97) (pc' := 95) rfl rfl rfl (by decide) (fun (q185 : (0 : Int) ≠ 0) => ?_) (fun (q185 : (0 : Int) = 0) => ?_)
            · exact absurd rfl q185
            · refine mc_cx hmi 1 (F' := (96, [(7, .int (Int32.ofInt 0)), (6, .int (Int32.ofInt 0)), (5, .int (y173 ||| y175)), (4, .int y148), (0, .ref cu), (1, .int S), (2, .int x), (3, .int m)], [.int (Int32.ofInt (-1))], h, n, 0, 0)) (by with_unfolding_all rfl) ?_
              refine mc_ret hmi rfl rfl rfl ⟨rfl, rfl, _, rfl, ?_⟩
              unfold df_lv
              rw [if_neg hvb, if_neg (fun q => q.elim hcan (fun r => absurd r (by omega)))]
              rfl
        · refine mc_cx hmi 4 (F' := (87, [(7, .int (Int32.ofInt 1)), (6, .int (Int32.ofInt 0)), (5, .int (y173 ||| y175)), (4, .int y148), (0, .ref cu), (1, .int S), (2, .int x), (3, .int m)], [.int (Int32.ofInt 0)], h, n, 0, 0)) (by with_unfolding_all rfl) ?_
          refine mc_cz hmi (c := .ne) (tg := 97) (pc' := 90) rfl rfl rfl (by decide) (fun (q186 : (0 : Int) ≠ 0) => ?_) (fun (q186 : (0 : Int) = 0) => ?_)
          · exact absurd rfl q186
          · refine mc_cx hmi 1 (F' := (92, [(7, .int (Int32.ofInt 1)), (6, .int (Int32.ofInt 0)), (5, .int (y173 ||| y175)), (4, .int y148), (0, .ref cu), (1, .int S), (2, .int x), (3, .int m)], [.int (Int32.ofInt 1)], h, n, 0, 0)) (by with_unfolding_all rfl) ?_
            refine mc_cz hmi (c := .ne) (tg := 97) (pc' := 95) rfl rfl rfl (by decide) (fun (q187 : (1 : Int) ≠ 0) => ?_) (fun (q187 : (1 : Int) = 0) => ?_)
            · refine mc_cx hmi 13 (F' := (116, [(8, .int (S &&& (Int16.ofInt 255).toInt32)), (7, .int (Int32.ofInt 1)), (6, .int (Int32.ofInt 0)), (5, .int (y173 ||| y175)), (4, .int y148), (0, .ref cu), (1, .int S), (2, .int x), (3, .int m)], [.int (((S &&& (Int16.ofInt 255).toInt32) ||| (x <<< ((Int8.ofInt 8).toInt32 &&& 31))) ||| (m <<< ((Int8.ofInt 12).toInt32 &&& 31)))], h, n, 0, 0)) (by with_unfolding_all rfl) ?_
              refine mc_ret hmi rfl rfl rfl ⟨rfl, rfl, _, rfl, ?_⟩
              unfold df_lv
              rw [if_neg hvb, if_pos (Or.inr (by omega))]
              have k1 : x = nI v := dw_nI hx (by omega)
              have k2 : m = nI p := dw_nI hm (by omega)
              refine ⟨?_, (by omega : b ≤ 14), (by omega : t ≤ 9), (by omega : v ≤ 13), (by omega : p ≤ 2)⟩
              rw [k1, k2, hS, (df_e1 b hb t ht s hs o ho).1]
              exact (df_e1 b hb t ht v hv p (by omega)).2
            · exact absurd q187 (by decide)
      · have hcan : df_hd K b v p = true := hmask.mp q177
        clear hmask
        refine mc_cx hmi 5 (F' := (64, [(6, .int (Int32.ofInt 1)), (5, .int (y173 ||| y175)), (4, .int y148), (0, .ref cu), (1, .int S), (2, .int x), (3, .int m)], [.int x, .int S], h, n, 0, 0)) (by with_unfolding_all rfl) ?_
        refine mc_callP hmi (en := (64, .invokestatic 55, 3, (3, 27, 0, 0), [624, 623])) rfl (q := (mt_X1_standingOf, [.int S, .int x], [])) (by with_unfolding_all rfl) ⟨rfl, rfl⟩ (pc' := 67) rfl (dw_standingOf (by omega) hb ht hs ho hS hx hv) (fun y188 e189 => ?_)
        refine mc_cx hmi 3 (F' := (70, [(6, .int (Int32.ofInt 1)), (5, .int (y173 ||| y175)), (4, .int y148), (0, .ref cu), (1, .int S), (2, .int x), (3, .int m)], [.ref cu, .int (y188 + m)], h, n, 0, 0)) (by with_unfolding_all rfl) ?_
        have e190 : (y188 + m).toInt = (df_st b t v : Int) + (p : Int) := mc_add e189 hm (by omega) (by omega)
        refine mc_getrC hmi H (k := cu) (j := 0) (pc' := 73) rfl u1.1 u2.1 u6.1 rfl ?_
        refine mc_cx hmi 1 (F' := (74, [(6, .int (Int32.ofInt 1)), (5, .int (y173 ||| y175)), (4, .int y148), (0, .ref cu), (1, .int S), (2, .int x), (3, .int m)], [.int x, .ref c0, .int (y188 + m)], h, n, 0, 0)) (by with_unfolding_all rfl) ?_
        refine mc_iald hmi H (k := c0) (i := (v : Int)) (pc' := 75) rfl u1.2.1 u3.1 hx (by omega) (by omega) rfl (fun y191 e192 r1 r2 => ?_)
        have hc := (hk v hv).1
        rw [hc] at e192
        refine mc_ci hmi (c := .gt) (tg := 82) (pc' := 78) rfl rfl rfl e190 e192 (fun (q193 : (K.1 v : Int) < ((df_st b t v : Int) + (p : Int))) => ?_) (fun (q193 : ((df_st b t v : Int) + (p : Int)) ≤ (K.1 v : Int)) => ?_)
        · refine mc_cx hmi 3 (F' := (87, [(7, .int (Int32.ofInt 0)), (6, .int (Int32.ofInt 1)), (5, .int (y173 ||| y175)), (4, .int y148), (0, .ref cu), (1, .int S), (2, .int x), (3, .int m)], [.int (Int32.ofInt 1)], h, n, 0, 0)) (by with_unfolding_all rfl) ?_
          refine mc_cz hmi (c := .ne) (tg := 97) (pc' := 90) rfl rfl rfl (by decide) (fun (q194 : (1 : Int) ≠ 0) => ?_) (fun (q194 : (1 : Int) = 0) => ?_)
          · refine mc_cx hmi 13 (F' := (116, [(8, .int (S &&& (Int16.ofInt 255).toInt32)), (7, .int (Int32.ofInt 0)), (6, .int (Int32.ofInt 1)), (5, .int (y173 ||| y175)), (4, .int y148), (0, .ref cu), (1, .int S), (2, .int x), (3, .int m)], [.int (((S &&& (Int16.ofInt 255).toInt32) ||| (x <<< ((Int8.ofInt 8).toInt32 &&& 31))) ||| (m <<< ((Int8.ofInt 12).toInt32 &&& 31)))], h, n, 0, 0)) (by with_unfolding_all rfl) ?_
            refine mc_ret hmi rfl rfl rfl ⟨rfl, rfl, _, rfl, ?_⟩
            unfold df_lv
            rw [if_neg hvb, if_pos (Or.inl hcan)]
            have k1 : x = nI v := dw_nI hx (by omega)
            have k2 : m = nI p := dw_nI hm (by omega)
            refine ⟨?_, (by omega : b ≤ 14), (by omega : t ≤ 9), (by omega : v ≤ 13), (by omega : p ≤ 2)⟩
            rw [k1, k2, hS, (df_e1 b hb t ht s hs o ho).1]
            exact (df_e1 b hb t ht v hv p (by omega)).2
          · exact absurd q194 (by decide)
        · refine mc_cx hmi 4 (F' := (87, [(7, .int (Int32.ofInt 1)), (6, .int (Int32.ofInt 1)), (5, .int (y173 ||| y175)), (4, .int y148), (0, .ref cu), (1, .int S), (2, .int x), (3, .int m)], [.int (Int32.ofInt 1)], h, n, 0, 0)) (by with_unfolding_all rfl) ?_
          refine mc_cz hmi (c := .ne) (tg := 97) (pc' := 90) rfl rfl rfl (by decide) (fun (q195 : (1 : Int) ≠ 0) => ?_) (fun (q195 : (1 : Int) = 0) => ?_)
          · refine mc_cx hmi 13 (F' := (116, [(8, .int (S &&& (Int16.ofInt 255).toInt32)), (7, .int (Int32.ofInt 1)), (6, .int (Int32.ofInt 1)), (5, .int (y173 ||| y175)), (4, .int y148), (0, .ref cu), (1, .int S), (2, .int x), (3, .int m)], [.int (((S &&& (Int16.ofInt 255).toInt32) ||| (x <<< ((Int8.ofInt 8).toInt32 &&& 31))) ||| (m <<< ((Int8.ofInt 12).toInt32 &&& 31)))], h, n, 0, 0)) (by with_unfolding_all rfl) ?_
            refine mc_ret hmi rfl rfl rfl ⟨rfl, rfl, _, rfl, ?_⟩
            unfold df_lv
            rw [if_neg hvb, if_pos (Or.inl hcan)]
            have k1 : x = nI v := dw_nI hx (by omega)
            have k2 : m = nI p := dw_nI hm (by omega)
            refine ⟨?_, (by omega : b ≤ 14), (by omega : t ≤ 9), (by omega : v ≤ 13), (by omega : p ≤ 2)⟩
            rw [k1, k2, hS, (df_e1 b hb t ht s hs o ho).1]
            exact (df_e1 b hb t ht v hv p (by omega)).2
          · exact absurd q195 (by decide)
  · refine mc_cx hmi 1 (F' := (13, [(4, .int y148), (0, .ref cu), (1, .int S), (2, .int x), (3, .int m)], [.int (Int32.ofInt (-1))], h, n, 0, 0)) (by with_unfolding_all rfl) ?_
    refine mc_ret hmi rfl rfl rfl ⟨rfl, rfl, _, rfl, ?_⟩
    unfold df_lv
    rw [if_pos (by omega)]
    rfl
set_option maxHeartbeats 4000000 in
set_option maxRecDepth 100000 in
theorem dw_after {l : Launch} {G : ax_T} {d : Nat} {h : ax_H} {n : Nat} (hd : 3 ≤ d) (H : mc_HW h n) {cu c0 c1 c2 : Nat} {K : df_K} (hK : dw_K h cu c0 c1 c2 K) {b t s o : Nat} (hb : b < 15) (ht : t < 10) (hs : s < 14) (ho : o < 3) {S x : Int32} {v : Nat} (hS : S = df_E (b, t, s, o)) (hx : x.toInt = (v : Int)) (hv : v < 14) : mc_M l G d mt_X1_after [.ref cu, .int S, .int x] h n (mc_P h n fun y => dw_o y (df_af K (b, t, s, o) v)) := by
  obtain ⟨d, rfl⟩ : ∃ e, d = e + 1 := ⟨d - 1, by omega⟩
  have hmi : mt_X1_after ∈ mt_prog := List.mem_of_getElem? mi_X1_after
  have hK' := hK
  obtain ⟨⟨u1, u2, u3, u4, u5, u6⟩, ⟨τs, uk⟩, hk⟩ := hK
  have hA : df_af K (b, t, s, o) v = (if o = 0 then df_lv K b t v 1 else if s < v then (if df_ta K s o v = true ∧ v < b then some (s, 0, 0, 0) else none) else if v = s then (if o = 1 then df_lv K b t v 2 else df_cl K b t v 3) else (df_cl K b t s o).bind fun C => df_lv K C.1 C.2.1 v 1) := rfl
  rw [hA]
  refine mc_to hmi rfl ?_
  show mc_R _ _ _ _ _ (0, [(0, .ref cu), (1, .int S), (2, .int x)], [], h, n, 0, 0)
  refine mc_cx hmi 1 (F' := (1, [(0, .ref cu), (1, .int S), (2, .int x)], [.int S], h, n, 0, 0)) (by with_unfolding_all rfl) ?_
  refine mc_callP hmi (en := (1, .invokestatic 38, 3, (3, 30, 0, 0), [614, 613])) rfl (q := (mt_X1_openIn, [.int S], [])) (by with_unfolding_all rfl) ⟨rfl, rfl⟩ (pc' := 4) rfl (dw_openIn (by omega) hb ht hs ho hS) (fun y196 e197 => ?_)
  refine mc_cx hmi 2 (F' := (6, [(3, .int y196), (0, .ref cu), (1, .int S), (2, .int x)], [.int y196], h, n, 0, 0)) (by with_unfolding_all rfl) ?_
  refine mc_cz hmi (c := .ne) (tg := 17) (pc' := 9) rfl rfl rfl e197 (fun (q198 : (o : Int) ≠ 0) => ?_) (fun (q198 : (o : Int) = 0) => ?_)
  · have h0 : ¬ o = 0 := by omega
    refine mc_cx hmi 1 (F' := (18, [(3, .int y196), (0, .ref cu), (1, .int S), (2, .int x)], [.int S], h, n, 0, 0)) (by with_unfolding_all rfl) ?_
    refine mc_callP hmi (en := (18, .invokestatic 46, 3, (3, 29, 0, 0), [627, 626])) rfl (q := (mt_X1_signIn, [.int S], [])) (by with_unfolding_all rfl) ⟨rfl, rfl⟩ (pc' := 21) rfl (dw_signIn (by omega) hb ht hs ho hS) (fun y201 e202 => ?_)
    refine mc_cx hmi 3 (F' := (26, [(4, .int y201), (3, .int y196), (0, .ref cu), (1, .int S), (2, .int x)], [.int y201, .int x], h, n, 0, 0)) (by with_unfolding_all rfl) ?_
    refine mc_ci hmi (c := .le) (tg := 36) (pc' := 29) rfl rfl rfl hx e202 (fun (q203 : (v : Int) ≤ (s : Int)) => ?_) (fun (q203 : (s : Int) < (v : Int)) => ?_)
    · have h1 : ¬ s < v := by omega
      refine mc_cx hmi 2 (F' := (39, [(4, .int y201), (3, .int y196), (0, .ref cu), (1, .int S), (2, .int x)], [.int y201, .int x], h, n, 0, 0)) (by with_unfolding_all rfl) ?_
      refine mc_ci hmi (c := .ne) (tg := 55) (pc' := 42) rfl rfl rfl hx e202 (fun (q206 : (v : Int) ≠ (s : Int)) => ?_) (fun (q206 : (v : Int) = (s : Int)) => ?_)
      · refine mc_cx hmi 2 (F' := (58, [(4, .int y201), (3, .int y196), (0, .ref cu), (1, .int S), (2, .int x)], [.int y201, .int x], h, n, 0, 0)) (by with_unfolding_all rfl) ?_
        refine mc_ci hmi (c := .ne) (tg := 68) (pc' := 61) rfl rfl rfl hx e202 (fun (q207 : (v : Int) ≠ (s : Int)) => ?_) (fun (q207 : (v : Int) = (s : Int)) => ?_)
        · refine mc_cx hmi 3 (F' := (71, [(4, .int y201), (3, .int y196), (0, .ref cu), (1, .int S), (2, .int x)], [.int y196, .int S, .ref cu], h, n, 0, 0)) (by with_unfolding_all rfl) ?_
          refine mc_callP hmi (en := (71, .invokevirtual 52, 3, (3, 23, 1, 0), [643, 8, 641])) rfl (q := (mt_X1_closePlain, [.ref cu, .int S, .int y196], [])) (mc_inv H (as := [.int S, .int y196]) (rest := []) rfl (by with_unfolding_all rfl) u1.1 uk rfl) ⟨rfl, rfl⟩ (pc' := 74) rfl (dw_closePlain (by omega) H hK' hb ht hs ho hS e197 (by omega)) (fun y208 e209 => ?_)
          have hvs : ¬ v = s := by omega
          cases hr : df_cl K b t s o with
          | none =>
            rw [hr] at e209
            have e6 : y208 = Int32.ofInt (-1) := e209
            refine mc_cx hmi 3 (F' := (79, [(5, .int y208), (4, .int y201), (3, .int y196), (0, .ref cu), (1, .int S), (2, .int x)], [.int (Int32.ofInt (-1)), .int y208], h, n, 0, 0)) (by with_unfolding_all rfl) ?_
            refine mc_ci hmi (c := .ne) (tg := 86) (pc' := 82) rfl rfl rfl rfl (by decide) (fun (q210 : y208.toInt ≠ (-1)) => ?_) (fun (q210 : y208.toInt = (-1)) => ?_)
            · exact absurd (by rw [e6]; decide) q210
            · refine mc_cx hmi 2 (F' := (94, [(5, .int y208), (4, .int y201), (3, .int y196), (0, .ref cu), (1, .int S), (2, .int x)], [.int (Int32.ofInt (-1))], h, n, 0, 0)) (by with_unfolding_all rfl) ?_
              refine mc_ret hmi rfl rfl rfl ⟨rfl, rfl, _, rfl, ?_⟩
              rw [if_neg h0, if_neg h1, if_neg hvs]
              exact rfl
          | some T =>
            rw [hr] at e209
            obtain ⟨b', t', s', o'⟩ := T
            obtain ⟨e6, m1, m2, m3, m4⟩ := e209
            have g1 : b' < 15 := Nat.lt_succ_of_le m1
            have g2 : t' < 10 := Nat.lt_succ_of_le m2
            have g3 : s' < 14 := Nat.lt_succ_of_le m3
            have g4 : o' < 3 := Nat.lt_succ_of_le m4
            refine mc_cx hmi 3 (F' := (79, [(5, .int y208), (4, .int y201), (3, .int y196), (0, .ref cu), (1, .int S), (2, .int x)], [.int (Int32.ofInt (-1)), .int y208], h, n, 0, 0)) (by with_unfolding_all rfl) ?_
            refine mc_ci hmi (c := .ne) (tg := 86) (pc' := 82) rfl rfl rfl rfl (by decide) (fun (q211 : y208.toInt ≠ (-1)) => ?_) (fun (q211 : y208.toInt = (-1)) => ?_)
            · refine mc_cx hmi 4 (F' := (91, [(5, .int y208), (4, .int y201), (3, .int y196), (0, .ref cu), (1, .int S), (2, .int x)], [.int (Int32.ofInt 1), .int x, .int y208, .ref cu], h, n, 0, 0)) (by with_unfolding_all rfl) ?_
              refine mc_callP hmi (en := (91, .invokevirtual 42, 3, (3, 22, 1, 0), [618, 4, 616])) rfl (q := (mt_X1_leaveOpen, [.ref cu, .int y208, .int x, .int (Int32.ofInt 1)], [])) (mc_inv H (as := [.int y208, .int x, .int (Int32.ofInt 1)]) (rest := []) rfl (by with_unfolding_all rfl) u1.1 uk rfl) ⟨rfl, rfl⟩ (pc' := 94) rfl (dw_leaveOpen (by omega) H hK' g1 g2 g3 g4 e6 hx hv (p := 1) (by decide) (Or.inl rfl)) (fun y212 e213 => ?_)
              refine mc_ret hmi rfl rfl rfl ⟨rfl, rfl, _, rfl, ?_⟩
              rw [if_neg h0, if_neg h1, if_neg hvs]
              exact e213
            · have g5 := df_ne b' g1 t' g2 s' g3 o' g4
              rw [← e6] at g5
              exact absurd q211 (by omega)
        · exact absurd q207 (by omega)
      · refine mc_cx hmi 2 (F' := (44, [(4, .int y201), (3, .int y196), (0, .ref cu), (1, .int S), (2, .int x)], [.int (Int32.ofInt 1), .int y196], h, n, 0, 0)) (by with_unfolding_all rfl) ?_
        refine mc_ci hmi (c := .ne) (tg := 55) (pc' := 47) rfl rfl rfl e197 (by decide) (fun (q214 : (o : Int) ≠ 1) => ?_) (fun (q214 : (o : Int) = 1) => ?_)
        · have ho1 : ¬ o = 1 := by omega
          refine mc_cx hmi 2 (F' := (58, [(4, .int y201), (3, .int y196), (0, .ref cu), (1, .int S), (2, .int x)], [.int y201, .int x], h, n, 0, 0)) (by with_unfolding_all rfl) ?_
          refine mc_ci hmi (c := .ne) (tg := 68) (pc' := 61) rfl rfl rfl hx e202 (fun (q215 : (v : Int) ≠ (s : Int)) => ?_) (fun (q215 : (v : Int) = (s : Int)) => ?_)
          · exact absurd (by omega) q215
          · refine mc_cx hmi 3 (F' := (64, [(4, .int y201), (3, .int y196), (0, .ref cu), (1, .int S), (2, .int x)], [.int (Int32.ofInt 3), .int S, .ref cu], h, n, 0, 0)) (by with_unfolding_all rfl) ?_
            refine mc_callP hmi (en := (64, .invokevirtual 52, 3, (3, 23, 1, 0), [643, 8, 641])) rfl (q := (mt_X1_closePlain, [.ref cu, .int S, .int (Int32.ofInt 3)], [])) (mc_inv H (as := [.int S, .int (Int32.ofInt 3)]) (rest := []) rfl (by with_unfolding_all rfl) u1.1 uk rfl) ⟨rfl, rfl⟩ (pc' := 67) rfl (dw_closePlain (by omega) H hK' hb ht hs ho hS (p := 3) (by decide) (by decide)) (fun y216 e217 => ?_)
            have hvs : v = s := by omega
            refine mc_ret hmi rfl rfl rfl ⟨rfl, rfl, _, rfl, ?_⟩
            rw [if_neg h0, if_neg h1, if_pos hvs, if_neg ho1, hvs]
            exact e217
        · refine mc_cx hmi 4 (F' := (51, [(4, .int y201), (3, .int y196), (0, .ref cu), (1, .int S), (2, .int x)], [.int (Int32.ofInt 2), .int x, .int S, .ref cu], h, n, 0, 0)) (by with_unfolding_all rfl) ?_
          refine mc_callP hmi (en := (51, .invokevirtual 42, 3, (3, 22, 1, 0), [618, 4, 616])) rfl (q := (mt_X1_leaveOpen, [.ref cu, .int S, .int x, .int (Int32.ofInt 2)], [])) (mc_inv H (as := [.int S, .int x, .int (Int32.ofInt 2)]) (rest := []) rfl (by with_unfolding_all rfl) u1.1 uk rfl) ⟨rfl, rfl⟩ (pc' := 54) rfl (dw_leaveOpen (by omega) H hK' hb ht hs ho hS hx hv (p := 2) (by decide) (Or.inr rfl)) (fun y218 e219 => ?_)
          refine mc_ret hmi rfl rfl rfl ⟨rfl, rfl, _, rfl, ?_⟩
          rw [if_neg h0, if_neg h1, if_pos (by omega), if_pos (by omega)]
          exact e219
    · refine mc_cx hmi 3 (F' := (32, [(4, .int y201), (3, .int y196), (0, .ref cu), (1, .int S), (2, .int x)], [.int x, .int S, .ref cu], h, n, 0, 0)) (by with_unfolding_all rfl) ?_
      refine mc_callP hmi (en := (32, .invokevirtual 49, 3, (3, 24, 1, 0), [631, 5, 629])) rfl (q := (mt_X1_closeTaking, [.ref cu, .int S, .int x], [])) (mc_inv H (as := [.int S, .int x]) (rest := []) rfl (by with_unfolding_all rfl) u1.1 uk rfl) ⟨rfl, rfl⟩ (pc' := 35) rfl (dw_closeTaking (by omega) H hK' hb ht hs ho hS hx hv) (fun y204 e205 => ?_)
      refine mc_ret hmi rfl rfl rfl ⟨rfl, rfl, _, rfl, ?_⟩
      rw [if_neg h0, if_pos (by omega)]
      exact e205
  · refine mc_cx hmi 4 (F' := (13, [(3, .int y196), (0, .ref cu), (1, .int S), (2, .int x)], [.int (Int32.ofInt 1), .int x, .int S, .ref cu], h, n, 0, 0)) (by with_unfolding_all rfl) ?_
    refine mc_callP hmi (en := (13, .invokevirtual 42, 3, (3, 22, 1, 0), [618, 4, 616])) rfl (q := (mt_X1_leaveOpen, [.ref cu, .int S, .int x, .int (Int32.ofInt 1)], [])) (mc_inv H (as := [.int S, .int x, .int (Int32.ofInt 1)]) (rest := []) rfl (by with_unfolding_all rfl) u1.1 uk rfl) ⟨rfl, rfl⟩ (pc' := 16) rfl (dw_leaveOpen (by omega) H hK' hb ht hs ho hS hx hv (p := 1) (by decide) (Or.inl rfl)) (fun y199 e200 => ?_)
    refine mc_ret hmi rfl rfl rfl ⟨rfl, rfl, _, rfl, ?_⟩
    rw [if_pos (by omega)]
    exact e200
end
section
/-! ===== the reference's test of what is filled in, exactly (ways printed by wip/v2/mk94.py) ===== -/
/-- the reference's custom k holds K -/
def kz_K (h : ax_H) (k : Nat) (K : df_K) : Prop := ∀ v : Nat, v < 14 → ab_ri h 546 (14 * (k : Int) + (v : Int)) = (K.1 v : Int) ∧ K.1 v ≤ 9 ∧ (∀ i : Nat, bt (Int32.ofInt (ab_ri h 547 (14 * (k : Int) + (v : Int)))) i = K.2.1 v i) ∧ ∀ i : Nat, bt (Int32.ofInt (ab_ri h 548 (14 * (k : Int) + (v : Int)))) i = K.2.2 v i
theorem kz_b0 (i : Nat) : bt (Int32.ofInt 0) i = false := by
  show (0#32).getLsbD i = false
  exact BitVec.getLsbD_zero
theorem kz_c {K : df_K} {f : Nat → Nat} {size : Nat} {w : Prop} {c a head cap ph : Nat} (h : ¬ size ≤ a) (q : ¬ f a < cap) : ¬ ka K f size w (c + 1) a head cap ph := by
  unfold ka
  rintro (z | z)
  · exact h z
  · exact q z.1
theorem kz_u {K : df_K} {f : Nat → Nat} {size : Nat} {w : Prop} {c a head cap ph x e : Nat} (hX : f a = x) (hE : ka_e f x (size - a) a = e) (h : ¬ size ≤ a) (q : x < cap) (u1 : e < size) (u2 : x < f e) (u3 : f e < cap) (u4 : f e ≤ head) (u5 : ka_mt K x (f e) (e - a)) : ka K f size w (c + 1) a head cap ph ↔ ka K f size w c (e + 1) x x 15 := by
  rw [ka, hX, hE]
  constructor
  · rintro (z | ⟨-, ⟨-, -, -, -, -, z⟩ | ⟨z, -⟩⟩)
    · exact absurd z h
    · exact z
    · exact absurd (And.intro u1 u2) z
  · exact fun z => Or.inr ⟨q, Or.inl ⟨u1, u2, u3, u4, u5, z⟩⟩
theorem kz_n {K : df_K} {f : Nat → Nat} {size : Nat} {w : Prop} {c a head cap ph x e : Nat} (hX : f a = x) (hE : ka_e f x (size - a) a = e) (h : ¬ size ≤ a) (u1 : e < size) (u2 : x < f e) (u3 : ¬ (f e < cap ∧ f e ≤ head ∧ ka_mt K x (f e) (e - a))) : ¬ ka K f size w (c + 1) a head cap ph := by
  rw [ka, hX, hE]
  rintro (z | ⟨-, ⟨-, -, z1, z2, z3, -⟩ | ⟨z, -⟩⟩)
  · exact h z
  · exact u3 ⟨z1, z2, z3⟩
  · exact z ⟨u1, u2⟩
theorem kz_p {K : df_K} {f : Nat → Nat} {size : Nat} {w : Prop} {c a head cap ph x e : Nat} (hX : f a = x) (hE : ka_e f x (size - a) a = e) (h : ¬ size ≤ a) (q : x < cap) (u : ¬ (e < size ∧ x < f e)) (p : x ≤ head ∧ x ≠ ph ∧ e - a ≤ K.1 x) : ka K f size w (c + 1) a head cap ph ↔ ka K f size w c e x cap x := by
  rw [ka, hX, hE]
  constructor
  · rintro (z | ⟨-, ⟨z1, z2, -⟩ | ⟨-, ⟨-, z⟩ | ⟨z, -⟩⟩⟩)
    · exact absurd z h
    · exact absurd (And.intro z1 z2) u
    · exact z
    · exact absurd p z
  · exact fun z => Or.inr ⟨q, Or.inr ⟨u, Or.inl ⟨p, z⟩⟩⟩
theorem kz_m {K : df_K} {f : Nat → Nat} {size : Nat} {w : Prop} {c a head cap ph x e : Nat} (hX : f a = x) (hE : ka_e f x (size - a) a = e) (h : ¬ size ≤ a) (q : x < cap) (u : ¬ (e < size ∧ x < f e)) (p : ¬ (x ≤ head ∧ x ≠ ph ∧ e - a ≤ K.1 x)) : ka K f size w (c + 1) a head cap ph ↔ ¬ w ∧ e = size ∧ ka_mb K x (e - a) head cap := by
  rw [ka, hX, hE]
  constructor
  · rintro (z | ⟨-, ⟨z1, z2, -⟩ | ⟨-, ⟨z, -⟩ | ⟨-, z⟩⟩⟩)
    · exact absurd z h
    · exact absurd (And.intro z1 z2) u
    · exact absurd z p
    · exact z
  · exact fun z => Or.inr ⟨q, Or.inr ⟨u, Or.inr ⟨p, z⟩⟩⟩
set_option maxRecDepth 100000 in
theorem kz_mayTake {l : Launch} {G : ax_T} {d : Nat} {h : ax_H} {n : Nat} (hd : 1 ≤ d) (H : mc_HW h n) {K : df_K} {kk : Nat} (hK : kz_K h kk K) {k a : Int32} (hk : k.toInt = (kk : Int)) (hk5 : kk < 6) {va : Nat} (ha : a.toInt = (va : Int)) (ha1 : va < 14) {b t : Int32} {vb vt : Nat} (hb : b.toInt = (vb : Int)) (hb1 : vb < 14) (ht : t.toInt = (vt : Int)) : mc_M l G d mt_X11_mayTake [.ref 542, .int k, .int a, .int b, .int t] h n (mc_P h n fun y => y.toInt = 1 ∧ ka_mt K va vb vt ∨ y.toInt = 0 ∧ ¬ ka_mt K va vb vt) := by
  obtain ⟨d, rfl⟩ : ∃ e, d = e + 1 := ⟨d - 1, by omega⟩
  have hmi : mt_X11_mayTake ∈ mt_prog := List.mem_of_getElem? mi_X11_mayTake
  refine mc_to hmi rfl ?_
  show mc_R _ _ _ _ _ (0, [(0, .ref 542), (1, .int k), (2, .int a), (3, .int b), (4, .int t)], [], h, n, 0, 0)
  refine mc_cx hmi 2 (F' := (3, [(0, .ref 542), (1, .int k), (2, .int a), (3, .int b), (4, .int t)], [.int (Int32.ofInt 1), .int t], h, n, 0, 0)) (by with_unfolding_all rfl) ?_
  refine mc_ci hmi (c := .ne) (tg := 20) (pc' := 6) rfl rfl rfl ht (by decide) (fun (q101 : (vt : Int) ≠ 1) => ?_) (fun (q101 : (vt : Int) = 1) => ?_)
  · refine mc_cx hmi 2 (F' := (23, [(0, .ref 542), (1, .int k), (2, .int a), (3, .int b), (4, .int t)], [.int (Int32.ofInt 2), .int t], h, n, 0, 0)) (by with_unfolding_all rfl) ?_
    refine mc_ci hmi (c := .ne) (tg := 40) (pc' := 26) rfl rfl rfl ht (by decide) (fun (q109 : (vt : Int) ≠ 2) => ?_) (fun (q109 : (vt : Int) = 2) => ?_)
    · refine mc_cx hmi 2 (F' := (43, [(5, .int (Int32.ofInt 0)), (0, .ref 542), (1, .int k), (2, .int a), (3, .int b), (4, .int t)], [], h, n, 0, 0)) (by with_unfolding_all rfl) ?_
      refine mc_cx hmi 6 (F' := (50, [(5, .int (Int32.ofInt 0)), (0, .ref 542), (1, .int k), (2, .int a), (3, .int b), (4, .int t)], [.int (Int32.ofInt 1), .int (((Int32.ofInt 0) >>> (b &&& 31)) &&& (Int32.ofInt 1))], h, n, 0, 0)) (by with_unfolding_all rfl) ?_
      have hq : (((Int32.ofInt 0) >>> (b &&& 31)) &&& (Int32.ofInt 1)) = Int32.ofInt 0 := by rw [bt_1 (Int32.ofInt 0) hb1 hb, kz_b0, if_neg (by decide)]
      have hq' : ((((Int32.ofInt 0) >>> (b &&& 31)) &&& (Int32.ofInt 1))).toInt = 0 := by rw [hq]; decide
      refine mc_ci hmi (c := .ne) (tg := 57) (pc' := 53) rfl rfl rfl hq' (by decide) (fun (q117 : (0 : Int) ≠ 1) => ?_) (fun (q117 : (0 : Int) = 1) => ?_)
      · refine mc_cx hmi 1 (F' := (58, [(5, .int (Int32.ofInt 0)), (0, .ref 542), (1, .int k), (2, .int a), (3, .int b), (4, .int t)], [.int (Int32.ofInt 0)], h, n, 0, 0)) (by with_unfolding_all rfl) ?_
        exact mc_ret hmi rfl rfl (mc_rb (by decide)) ⟨rfl, rfl, _, rfl, Or.inr ⟨by decide, fun q => q.elim (fun u => absurd u.1 (by omega)) (fun u => absurd u.1 (by omega))⟩⟩
      · exact absurd q117 (by decide)
    · obtain rfl : vt = 2 := by omega
      refine mc_cx hmi 1 (F' := (27, [(0, .ref 542), (1, .int k), (2, .int a), (3, .int b), (4, .int t)], [.ref 542], h, n, 0, 0)) (by with_unfolding_all rfl) ?_
      refine mc_getr hmi H (k := 542) (c := 548) (pc' := 30) rfl rfl rfl rfl rfl ?_
      refine mc_cx hmi 5 (F' := (36, [(0, .ref 542), (1, .int k), (2, .int a), (3, .int b), (4, .int t)], [.int (((Int8.ofInt 14).toInt32 * k) + a), .ref 548], h, n, 0, 0)) (by with_unfolding_all rfl) ?_
      have e110 : ((Int8.ofInt 14).toInt32 * k).toInt = 14 * (kk : Int) := mc_mul (by decide) hk (by omega) (by omega)
      have e111 : (((Int8.ofInt 14).toInt32 * k) + a).toInt = (14 * (kk : Int)) + (va : Int) := mc_add e110 ha (by omega) (by omega)
      refine mc_iald hmi H (k := 548) (i := ((14 * (kk : Int)) + (va : Int))) (pc' := 37) rfl rfl rfl e111 (by omega) (by omega) rfl (fun y112 e113 r114 r115 => ?_)
      rw [e113] at r114 r115
      refine mc_cx hmi 2 (F' := (43, [(5, .int y112), (0, .ref 542), (1, .int k), (2, .int a), (3, .int b), (4, .int t)], [], h, n, 0, 0)) (by with_unfolding_all rfl) ?_
      have hy : bt y112 vb = K.2.2 va vb := by rw [← (hK va ha1).2.2.2 vb, ← e113, Int32.ofInt_toInt]
      refine mc_cx hmi 6 (F' := (50, [(5, .int y112), (0, .ref 542), (1, .int k), (2, .int a), (3, .int b), (4, .int t)], [.int (Int32.ofInt 1), .int ((y112 >>> (b &&& 31)) &&& (Int32.ofInt 1))], h, n, 0, 0)) (by with_unfolding_all rfl) ?_
      have hq : ((y112 >>> (b &&& 31)) &&& (Int32.ofInt 1)).toInt = (if K.2.2 va vb = true then (1 : Int) else 0) := by
        rw [bt_1 y112 hb1 hb, hy]
        split <;> rfl
      refine mc_ci hmi (c := .ne) (tg := 57) (pc' := 53) rfl rfl rfl hq (by decide) (fun (q116 : (if K.2.2 va vb = true then (1 : Int) else 0) ≠ 1) => ?_) (fun (q116 : (if K.2.2 va vb = true then (1 : Int) else 0) = 1) => ?_)
      · refine mc_cx hmi 1 (F' := (58, [(5, .int y112), (0, .ref 542), (1, .int k), (2, .int a), (3, .int b), (4, .int t)], [.int (Int32.ofInt 0)], h, n, 0, 0)) (by with_unfolding_all rfl) ?_
        refine mc_ret hmi rfl rfl (mc_rb (by decide)) ⟨rfl, rfl, _, rfl, Or.inr ⟨by decide, ?_⟩⟩
        have hf : ¬ K.2.2 va vb = true := fun q => q116 (if_pos q)
        exact fun q => q.elim (fun u => absurd u.1 (by omega)) (fun u => hf u.2)
      · refine mc_cx hmi 2 (F' := (58, [(5, .int y112), (0, .ref 542), (1, .int k), (2, .int a), (3, .int b), (4, .int t)], [.int (Int32.ofInt 1)], h, n, 0, 0)) (by with_unfolding_all rfl) ?_
        have hf : K.2.2 va vb = true := Decidable.byContradiction fun q => absurd ((if_neg q).symm.trans q116) (by decide)
        exact mc_ret hmi rfl rfl (mc_rb (by decide)) ⟨rfl, rfl, _, rfl, Or.inl ⟨by decide, Or.inr ⟨by omega, hf⟩⟩⟩
  · obtain rfl : vt = 1 := by omega
    refine mc_cx hmi 1 (F' := (7, [(0, .ref 542), (1, .int k), (2, .int a), (3, .int b), (4, .int t)], [.ref 542], h, n, 0, 0)) (by with_unfolding_all rfl) ?_
    refine mc_getr hmi H (k := 542) (c := 547) (pc' := 10) rfl rfl rfl rfl rfl ?_
    refine mc_cx hmi 5 (F' := (16, [(0, .ref 542), (1, .int k), (2, .int a), (3, .int b), (4, .int t)], [.int (((Int8.ofInt 14).toInt32 * k) + a), .ref 547], h, n, 0, 0)) (by with_unfolding_all rfl) ?_
    have e102 : ((Int8.ofInt 14).toInt32 * k).toInt = 14 * (kk : Int) := mc_mul (by decide) hk (by omega) (by omega)
    have e103 : (((Int8.ofInt 14).toInt32 * k) + a).toInt = (14 * (kk : Int)) + (va : Int) := mc_add e102 ha (by omega) (by omega)
    refine mc_iald hmi H (k := 547) (i := ((14 * (kk : Int)) + (va : Int))) (pc' := 17) rfl rfl rfl e103 (by omega) (by omega) rfl (fun y104 e105 r106 r107 => ?_)
    rw [e105] at r106 r107
    refine mc_cx hmi 2 (F' := (43, [(5, .int y104), (0, .ref 542), (1, .int k), (2, .int a), (3, .int b), (4, .int t)], [], h, n, 0, 0)) (by with_unfolding_all rfl) ?_
    have hy : bt y104 vb = K.2.1 va vb := by rw [← (hK va ha1).2.2.1 vb, ← e105, Int32.ofInt_toInt]
    refine mc_cx hmi 6 (F' := (50, [(5, .int y104), (0, .ref 542), (1, .int k), (2, .int a), (3, .int b), (4, .int t)], [.int (Int32.ofInt 1), .int ((y104 >>> (b &&& 31)) &&& (Int32.ofInt 1))], h, n, 0, 0)) (by with_unfolding_all rfl) ?_
    have hq : ((y104 >>> (b &&& 31)) &&& (Int32.ofInt 1)).toInt = (if K.2.1 va vb = true then (1 : Int) else 0) := by
      rw [bt_1 y104 hb1 hb, hy]
      split <;> rfl
    refine mc_ci hmi (c := .ne) (tg := 57) (pc' := 53) rfl rfl rfl hq (by decide) (fun (q108 : (if K.2.1 va vb = true then (1 : Int) else 0) ≠ 1) => ?_) (fun (q108 : (if K.2.1 va vb = true then (1 : Int) else 0) = 1) => ?_)
    · refine mc_cx hmi 1 (F' := (58, [(5, .int y104), (0, .ref 542), (1, .int k), (2, .int a), (3, .int b), (4, .int t)], [.int (Int32.ofInt 0)], h, n, 0, 0)) (by with_unfolding_all rfl) ?_
      refine mc_ret hmi rfl rfl (mc_rb (by decide)) ⟨rfl, rfl, _, rfl, Or.inr ⟨by decide, ?_⟩⟩
      have hf : ¬ K.2.1 va vb = true := fun q => q108 (if_pos q)
      exact fun q => q.elim (fun u => hf u.2) (fun u => absurd u.1 (by omega))
    · refine mc_cx hmi 2 (F' := (58, [(5, .int y104), (0, .ref 542), (1, .int k), (2, .int a), (3, .int b), (4, .int t)], [.int (Int32.ofInt 1)], h, n, 0, 0)) (by with_unfolding_all rfl) ?_
      have hf : K.2.1 va vb = true := Decidable.byContradiction fun q => absurd ((if_neg q).symm.trans q108) (by decide)
      exact mc_ret hmi rfl rfl (mc_rb (by decide)) ⟨rfl, rfl, _, rfl, Or.inl ⟨by decide, Or.inl ⟨by omega, hf⟩⟩⟩
set_option maxRecDepth 100000 in
theorem kz_mb {l : Launch} {G : ax_T} {d : Nat} {h : ax_H} {n : Nat} (hd : 1 ≤ d) (H : mc_HW h n) {K : df_K} {kk : Nat} (hK : kz_K h kk K) {k a : Int32} (hk : k.toInt = (kk : Int)) (hk5 : kk < 6) {va : Nat} (ha : a.toInt = (va : Int)) (ha1 : va < 14) {t x c : Int32} {vt vx vc : Nat} (ht : t.toInt = (vt : Int)) (hx : x.toInt = (vx : Int)) (hc : c.toInt = (vc : Int)) (ht1 : 1 ≤ vt) : ∀ (e vb : Nat) (b : Int32), b.toInt = (vb : Int) → vb + e = 14 → va < vb → (∀ y, va < y → y < vb → ¬ ((vt = 1 ∧ K.2.1 va y = true ∨ vt ≤ 2 ∧ K.2.2 va y = true) ∧ y ≤ vx ∧ y < vc)) → mc_R l G mt_X11_mayBegin d (mc_P h n fun y => y.toInt = 1 ∧ ka_mb K va vt vx vc ∨ y.toInt = 0 ∧ ¬ ka_mb K va vt vx vc) (5, [(0, .ref 542), (1, .int k), (2, .int a), (3, .int t), (4, .int x), (5, .int c), (6, .int b)], [], h, n, 0, 0) := by
  have hmi : mt_X11_mayBegin ∈ mt_prog := List.mem_of_getElem? mi_X11_mayBegin
  intro e
  induction e with
  | zero =>
    intro vb b hb he hab hno
    refine mc_cx hmi 2 (F' := (9, [(0, .ref 542), (1, .int k), (2, .int a), (3, .int t), (4, .int x), (5, .int c), (6, .int b)], [.int (Int8.ofInt 14).toInt32, .int b], h, n, 0, 0)) (by with_unfolding_all rfl) ?_
    refine mc_ci hmi (c := .ge) (tg := 80) (pc' := 12) rfl rfl rfl hb (by decide) (fun (q118 : 14 ≤ (vb : Int)) => ?_) (fun (q118 : (vb : Int) < 14) => ?_)
    · refine mc_cx hmi 1 (F' := (81, [(0, .ref 542), (1, .int k), (2, .int a), (3, .int t), (4, .int x), (5, .int c), (6, .int b)], [.int (Int32.ofInt 0)], h, n, 0, 0)) (by with_unfolding_all rfl) ?_
      exact mc_ret hmi rfl rfl (mc_rb (by decide)) ⟨rfl, rfl, _, rfl, Or.inr ⟨by decide, fun ⟨y, y1, y2, y3, y4, y5⟩ => hno y y1 (by omega) ⟨y3, y4, y5⟩⟩⟩
    · exact absurd q118 (by omega)
  | succ e ih =>
    intro vb b hb he hab hno
    refine mc_cx hmi 2 (F' := (9, [(0, .ref 542), (1, .int k), (2, .int a), (3, .int t), (4, .int x), (5, .int c), (6, .int b)], [.int (Int8.ofInt 14).toInt32, .int b], h, n, 0, 0)) (by with_unfolding_all rfl) ?_
    refine mc_ci hmi (c := .ge) (tg := 80) (pc' := 12) rfl rfl rfl hb (by decide) (fun (q119 : 14 ≤ (vb : Int)) => ?_) (fun (q119 : (vb : Int) < 14) => ?_)
    · exact absurd q119 (by omega)
    · have nxt : ¬ ((vt = 1 ∧ K.2.1 va vb = true ∨ vt ≤ 2 ∧ K.2.2 va vb = true) ∧ vb ≤ vx ∧ vb < vc) → mc_R l G mt_X11_mayBegin d (mc_P h n fun y => y.toInt = 1 ∧ ka_mb K va vt vx vc ∨ y.toInt = 0 ∧ ¬ ka_mb K va vt vx vc) (74, [(0, .ref 542), (1, .int k), (2, .int a), (3, .int t), (4, .int x), (5, .int c), (6, .int b)], [], h, n, 0, 0) := by
        intro hnb
        refine mc_cx hmi 2 (F' := (5, [(6, .int (b + Int32.ofInt 1)), (0, .ref 542), (1, .int k), (2, .int a), (3, .int t), (4, .int x), (5, .int c)], [], h, n, 0, 0)) (by with_unfolding_all rfl) ?_
        have e120 : (b + Int32.ofInt 1).toInt = (vb : Int) + 1 := mc_add hb (by decide) (by omega) (by omega)
        refine mc_lvs (lv' := [(0, .ref 542), (1, .int k), (2, .int a), (3, .int t), (4, .int x), (5, .int c), (6, .int (b + Int32.ofInt 1))]) (by simp) ?_
        refine ih (vb + 1) (b + Int32.ofInt 1) (by rw [e120]; omega) (by omega) (by omega) (fun y y1 y2 => ?_)
        by_cases hy : y = vb
        · rw [hy]; exact hnb
        · exact hno y y1 (by omega)
      have key : ∀ (u : Int32) (v : Int), u.toInt = v → v ≠ 0 → (vt = 1 ∧ K.2.1 va vb = true ∨ vt ≤ 2 ∧ K.2.2 va vb = true) → mc_R l G mt_X11_mayBegin d (mc_P h n fun y => y.toInt = 1 ∧ ka_mb K va vt vx vc ∨ y.toInt = 0 ∧ ¬ ka_mb K va vt vx vc) (51, [(0, .ref 542), (1, .int k), (2, .int a), (3, .int t), (4, .int x), (5, .int c), (6, .int b)], [.int u], h, n, 0, 0) := by
        intro u v hu hv hone
        refine mc_cx hmi 2 (F' := (55, [(7, .int u), (0, .ref 542), (1, .int k), (2, .int a), (3, .int t), (4, .int x), (5, .int c), (6, .int b)], [.int u], h, n, 0, 0)) (by with_unfolding_all rfl) ?_
        refine mc_cz hmi (c := .eq) (tg := 74) (pc' := 58) rfl rfl rfl hu (fun (q121 : v = 0) => ?_) (fun (q121 : v ≠ 0) => ?_)
        · exact absurd q121 hv
        · refine mc_cx hmi 2 (F' := (62, [(7, .int u), (0, .ref 542), (1, .int k), (2, .int a), (3, .int t), (4, .int x), (5, .int c), (6, .int b)], [.int x, .int b], h, n, 0, 0)) (by with_unfolding_all rfl) ?_
          refine mc_ci hmi (c := .gt) (tg := 74) (pc' := 65) rfl rfl rfl hb hx (fun (q122 : (vx : Int) < (vb : Int)) => ?_) (fun (q122 : (vb : Int) ≤ (vx : Int)) => ?_)
          · refine mc_lvs (lv' := [(0, .ref 542), (1, .int k), (2, .int a), (3, .int t), (4, .int x), (5, .int c), (6, .int b)]) (by simp) ?_
            exact nxt (fun z => absurd z.2.1 (by omega))
          · refine mc_cx hmi 2 (F' := (69, [(7, .int u), (0, .ref 542), (1, .int k), (2, .int a), (3, .int t), (4, .int x), (5, .int c), (6, .int b)], [.int c, .int b], h, n, 0, 0)) (by with_unfolding_all rfl) ?_
            refine mc_ci hmi (c := .ge) (tg := 74) (pc' := 72) rfl rfl rfl hb hc (fun (q123 : (vc : Int) ≤ (vb : Int)) => ?_) (fun (q123 : (vb : Int) < (vc : Int)) => ?_)
            · refine mc_lvs (lv' := [(0, .ref 542), (1, .int k), (2, .int a), (3, .int t), (4, .int x), (5, .int c), (6, .int b)]) (by simp) ?_
              exact nxt (fun z => absurd z.2.2 (by omega))
            · refine mc_cx hmi 1 (F' := (73, [(7, .int u), (0, .ref 542), (1, .int k), (2, .int a), (3, .int t), (4, .int x), (5, .int c), (6, .int b)], [.int (Int32.ofInt 1)], h, n, 0, 0)) (by with_unfolding_all rfl) ?_
              exact mc_ret hmi rfl rfl (mc_rb (by decide)) ⟨rfl, rfl, _, rfl, Or.inl ⟨by decide, vb, hab, by omega, hone, by omega, by omega⟩⟩
      have k46 : (vt = 1 ∧ K.2.1 va vb = true ∨ vt ≤ 2 ∧ K.2.2 va vb = true) → mc_R l G mt_X11_mayBegin d (mc_P h n fun y => y.toInt = 1 ∧ ka_mb K va vt vx vc ∨ y.toInt = 0 ∧ ¬ ka_mb K va vt vx vc) (46, [(0, .ref 542), (1, .int k), (2, .int a), (3, .int t), (4, .int x), (5, .int c), (6, .int b)], [], h, n, 0, 0) := by
        intro hone
        refine mc_cx hmi 2 (F' := (51, [(0, .ref 542), (1, .int k), (2, .int a), (3, .int t), (4, .int x), (5, .int c), (6, .int b)], [.int (Int32.ofInt 1)], h, n, 0, 0)) (by with_unfolding_all rfl) ?_
        exact key _ 1 (by decide) (by decide) hone
      have k50 : ¬ (vt = 1 ∧ K.2.1 va vb = true ∨ vt ≤ 2 ∧ K.2.2 va vb = true) → mc_R l G mt_X11_mayBegin d (mc_P h n fun y => y.toInt = 1 ∧ ka_mb K va vt vx vc ∨ y.toInt = 0 ∧ ¬ ka_mb K va vt vx vc) (50, [(0, .ref 542), (1, .int k), (2, .int a), (3, .int t), (4, .int x), (5, .int c), (6, .int b)], [], h, n, 0, 0) := by
        intro hone
        refine mc_cx hmi 3 (F' := (55, [(7, .int (Int32.ofInt 0)), (0, .ref 542), (1, .int k), (2, .int a), (3, .int t), (4, .int x), (5, .int c), (6, .int b)], [.int (Int32.ofInt 0)], h, n, 0, 0)) (by with_unfolding_all rfl) ?_
        refine mc_cz hmi (c := .eq) (tg := 74) (pc' := 58) rfl rfl rfl (by decide) (fun (q124 : (0 : Int) = 0) => ?_) (fun (q124 : (0 : Int) ≠ 0) => ?_)
        · refine mc_lvs (lv' := [(0, .ref 542), (1, .int k), (2, .int a), (3, .int t), (4, .int x), (5, .int c), (6, .int b)]) (by simp) ?_
          exact nxt (fun z => hone z.1)
        · exact absurd rfl q124
      have k29 : ¬ (vt = 1 ∧ K.2.1 va vb = true) → mc_R l G mt_X11_mayBegin d (mc_P h n fun y => y.toInt = 1 ∧ ka_mb K va vt vx vc ∨ y.toInt = 0 ∧ ¬ ka_mb K va vt vx vc) (29, [(0, .ref 542), (1, .int k), (2, .int a), (3, .int t), (4, .int x), (5, .int c), (6, .int b)], [], h, n, 0, 0) := by
        intro hn1
        refine mc_cx hmi 2 (F' := (31, [(0, .ref 542), (1, .int k), (2, .int a), (3, .int t), (4, .int x), (5, .int c), (6, .int b)], [.int (Int32.ofInt 2), .int t], h, n, 0, 0)) (by with_unfolding_all rfl) ?_
        refine mc_ci hmi (c := .gt) (tg := 50) (pc' := 34) rfl rfl rfl ht (by decide) (fun (q125 : 2 < (vt : Int)) => ?_) (fun (q125 : (vt : Int) ≤ 2) => ?_)
        · exact k50 (fun z => z.elim hn1 (fun u => absurd u.1 (by omega)))
        · refine mc_cx hmi 5 (F' := (40, [(0, .ref 542), (1, .int k), (2, .int a), (3, .int t), (4, .int x), (5, .int c), (6, .int b)], [.int (Int32.ofInt 2), .int b, .int a, .int k, .ref 542], h, n, 0, 0)) (by with_unfolding_all rfl) ?_
          refine mc_callP hmi (en := (40, .invokevirtual 154, 3, (3, 169, 11, 0), [1342, 81, 1340])) rfl (q := (mt_X11_mayTake, [.ref 542, .int k, .int a, .int b, .int (Int32.ofInt 2)], [])) (mc_inv H (as := [.int k, .int a, .int b, .int (Int32.ofInt 2)]) (rest := []) rfl (by with_unfolding_all rfl) rfl rfl rfl) ⟨rfl, rfl⟩ (pc' := 43) rfl (kz_mayTake hd H hK hk hk5 ha ha1 hb (by omega) (show (Int32.ofInt 2).toInt = ((2 : Nat) : Int) by decide)) (fun y126 e127 => ?_)
          refine mc_cz hmi (c := .eq) (tg := 50) (pc' := 46) rfl rfl rfl rfl (fun (q128 : y126.toInt = 0) => ?_) (fun (q128 : y126.toInt ≠ 0) => ?_)
          · exact k50 (fun z => z.elim hn1 (fun u => e127.elim (fun q => absurd q.1 (by omega)) (fun q => q.2 (Or.inr ⟨rfl, u.2⟩))))
          · exact k46 (e127.elim (fun q => q.2.elim (fun u => absurd u.1 (by decide)) (fun u => Or.inr ⟨by omega, u.2⟩)) (fun q => absurd q.1 q128))
      refine mc_cx hmi 2 (F' := (14, [(0, .ref 542), (1, .int k), (2, .int a), (3, .int t), (4, .int x), (5, .int c), (6, .int b)], [.int (Int32.ofInt 1), .int t], h, n, 0, 0)) (by with_unfolding_all rfl) ?_
      refine mc_ci hmi (c := .ne) (tg := 29) (pc' := 17) rfl rfl rfl ht (by decide) (fun (q129 : (vt : Int) ≠ 1) => ?_) (fun (q129 : (vt : Int) = 1) => ?_)
      · exact k29 (fun z => absurd z.1 (by omega))
      · refine mc_cx hmi 5 (F' := (23, [(0, .ref 542), (1, .int k), (2, .int a), (3, .int t), (4, .int x), (5, .int c), (6, .int b)], [.int (Int32.ofInt 1), .int b, .int a, .int k, .ref 542], h, n, 0, 0)) (by with_unfolding_all rfl) ?_
        refine mc_callP hmi (en := (23, .invokevirtual 154, 3, (3, 169, 11, 0), [1342, 81, 1340])) rfl (q := (mt_X11_mayTake, [.ref 542, .int k, .int a, .int b, .int (Int32.ofInt 1)], [])) (mc_inv H (as := [.int k, .int a, .int b, .int (Int32.ofInt 1)]) (rest := []) rfl (by with_unfolding_all rfl) rfl rfl rfl) ⟨rfl, rfl⟩ (pc' := 26) rfl (kz_mayTake hd H hK hk hk5 ha ha1 hb (by omega) (show (Int32.ofInt 1).toInt = ((1 : Nat) : Int) by decide)) (fun y130 e131 => ?_)
        refine mc_cz hmi (c := .ne) (tg := 46) (pc' := 29) rfl rfl rfl rfl (fun (q132 : y130.toInt ≠ 0) => ?_) (fun (q132 : y130.toInt = 0) => ?_)
        · exact k46 (e131.elim (fun q => q.2.elim (fun u => Or.inl ⟨by omega, u.2⟩) (fun u => absurd u.1 (by decide))) (fun q => absurd q.1 q132))
        · exact k29 (fun z => e131.elim (fun q => absurd q.1 (by omega)) (fun q => q.2 (Or.inl ⟨rfl, z.2⟩)))
set_option maxRecDepth 100000 in
theorem kz_mayBegin {l : Launch} {G : ax_T} {d : Nat} {h : ax_H} {n : Nat} (hd : 2 ≤ d) (H : mc_HW h n) {K : df_K} {kk : Nat} (hK : kz_K h kk K) {k a : Int32} (hk : k.toInt = (kk : Int)) (hk5 : kk < 6) {va : Nat} (ha : a.toInt = (va : Int)) (ha1 : va < 14) {t x c : Int32} {vt vx vc : Nat} (ht : t.toInt = (vt : Int)) (hx : x.toInt = (vx : Int)) (hc : c.toInt = (vc : Int)) (ht1 : 1 ≤ vt) : mc_M l G d mt_X11_mayBegin [.ref 542, .int k, .int a, .int t, .int x, .int c] h n (mc_P h n fun y => y.toInt = 1 ∧ ka_mb K va vt vx vc ∨ y.toInt = 0 ∧ ¬ ka_mb K va vt vx vc) := by
  obtain ⟨d, rfl⟩ : ∃ e, d = e + 1 := ⟨d - 1, by omega⟩
  have hmi : mt_X11_mayBegin ∈ mt_prog := List.mem_of_getElem? mi_X11_mayBegin
  refine mc_to hmi rfl ?_
  show mc_R _ _ _ _ _ (0, [(0, .ref 542), (1, .int k), (2, .int a), (3, .int t), (4, .int x), (5, .int c)], [], h, n, 0, 0)
  refine mc_cx hmi 4 (F' := (5, [(6, .int (a + (Int32.ofInt 1))), (0, .ref 542), (1, .int k), (2, .int a), (3, .int t), (4, .int x), (5, .int c)], [], h, n, 0, 0)) (by with_unfolding_all rfl) ?_
  have e133 : (a + (Int32.ofInt 1)).toInt = (va : Int) + 1 := mc_add ha (by decide) (by omega) (by omega)
  refine mc_lvs (lv' := [(0, .ref 542), (1, .int k), (2, .int a), (3, .int t), (4, .int x), (5, .int c), (6, .int (a + (Int32.ofInt 1)))]) (by simp) ?_
  exact kz_mb (by omega) H hK hk hk5 ha ha1 ht hx hc ht1 (13 - va) (va + 1) (a + (Int32.ofInt 1)) (by rw [e133]; omega) (by omega) (by omega) (fun y y1 y2 => absurd y1 (by omega))
set_option maxRecDepth 100000 in
theorem kz_b {l : Launch} {G : ax_T} {d : Nat} {h : ax_H} {n : Nat} (hd0 : 2 ≤ d) (H : mc_HW h n) {K : df_K} {kk : Nat} (hK : kz_K h kk K) {f s k w : Int32} (hf : f.toInt = 0) {size : Nat} (hs : s.toInt = (size : Int)) (hs1 : size ≤ 21) (hk : k.toInt = (kk : Int)) (hk5 : kk < 6) {F : Nat → Nat} (hF : ∀ j : Nat, j < size → ab_ri h 571 (j : Int) = (F j : Int)) (hF1 : ∀ j, F j < 14) {P : Prop} {hd cp at' ph x : Int32} {vx : Nat} (hx : x.toInt = (vx : Int)) : ∀ (c ve : Nat) (e : Int32), e.toInt = (ve : Int) → ve + c = size → (∀ e' : Int32, e'.toInt = (ka_e F vx c ve : Int) → mc_R l G mt_X11_keepsAll d (mc_P h n fun y => y.toInt = 1 ∧ P ∨ y.toInt = 0 ∧ ¬ P) (55, [(0, .ref 542), (1, .ref 571), (2, .int f), (3, .int s), (4, .int k), (5, .int w), (6, .int hd), (7, .int cp), (8, .int at'), (9, .int ph), (10, .int x), (11, .int e')], [], h, n, 0, 0)) → mc_R l G mt_X11_keepsAll d (mc_P h n fun y => y.toInt = 1 ∧ P ∨ y.toInt = 0 ∧ ¬ P) (32, [(0, .ref 542), (1, .ref 571), (2, .int f), (3, .int s), (4, .int k), (5, .int w), (6, .int hd), (7, .int cp), (8, .int at'), (9, .int ph), (10, .int x), (11, .int e)], [], h, n, 0, 0) := by
  have hmi : mt_X11_keepsAll ∈ mt_prog := List.mem_of_getElem? mi_X11_keepsAll
  intro c
  induction c with
  | zero =>
    intro ve e he hc kk'
    refine mc_cx hmi 2 (F' := (35, [(0, .ref 542), (1, .ref 571), (2, .int f), (3, .int s), (4, .int k), (5, .int w), (6, .int hd), (7, .int cp), (8, .int at'), (9, .int ph), (10, .int x), (11, .int e)], [.int s, .int e], h, n, 0, 0)) (by with_unfolding_all rfl) ?_
    refine mc_ci hmi (c := .ge) (tg := 55) (pc' := 38) rfl rfl rfl he hs (fun (q134 : (size : Int) ≤ (ve : Int)) => ?_) (fun (q134 : (ve : Int) < (size : Int)) => ?_)
    · exact kk' e he
    · exact absurd q134 (by omega)
  | succ c ih =>
    intro ve e he hc kk'
    refine mc_cx hmi 2 (F' := (35, [(0, .ref 542), (1, .ref 571), (2, .int f), (3, .int s), (4, .int k), (5, .int w), (6, .int hd), (7, .int cp), (8, .int at'), (9, .int ph), (10, .int x), (11, .int e)], [.int s, .int e], h, n, 0, 0)) (by with_unfolding_all rfl) ?_
    refine mc_ci hmi (c := .ge) (tg := 55) (pc' := 38) rfl rfl rfl he hs (fun (q135 : (size : Int) ≤ (ve : Int)) => ?_) (fun (q135 : (ve : Int) < (size : Int)) => ?_)
    · exact absurd q135 (by omega)
    · refine mc_cx hmi 4 (F' := (43, [(0, .ref 542), (1, .ref 571), (2, .int f), (3, .int s), (4, .int k), (5, .int w), (6, .int hd), (7, .int cp), (8, .int at'), (9, .int ph), (10, .int x), (11, .int e)], [.int (f + e), .ref 571], h, n, 0, 0)) (by with_unfolding_all rfl) ?_
      have e136 : (f + e).toInt = 0 + (ve : Int) := mc_add hf he (by omega) (by omega)
      refine mc_iald hmi H (k := 571) (i := (0 + (ve : Int))) (pc' := 44) rfl rfl rfl e136 (by omega) (by omega) rfl (fun y137 e138 r139 r140 => ?_)
      rw [e138] at r139 r140
      refine mc_cx hmi 1 (F' := (46, [(0, .ref 542), (1, .ref 571), (2, .int f), (3, .int s), (4, .int k), (5, .int w), (6, .int hd), (7, .int cp), (8, .int at'), (9, .int ph), (10, .int x), (11, .int e)], [.int x, .int y137], h, n, 0, 0)) (by with_unfolding_all rfl) ?_
      rw [Int.zero_add, hF ve (by omega)] at e138
      refine mc_ci hmi (c := .ne) (tg := 55) (pc' := 49) rfl rfl rfl e138 hx (fun (q141 : (F ve : Int) ≠ (vx : Int)) => ?_) (fun (q141 : (F ve : Int) = (vx : Int)) => ?_)
      · refine kk' e ?_
        rw [ka_e, if_neg (by omega)]
        exact he
      · refine mc_cx hmi 2 (F' := (32, [(11, .int (e + Int32.ofInt 1)), (0, .ref 542), (1, .ref 571), (2, .int f), (3, .int s), (4, .int k), (5, .int w), (6, .int hd), (7, .int cp), (8, .int at'), (9, .int ph), (10, .int x)], [], h, n, 0, 0)) (by with_unfolding_all rfl) ?_
        have e142 : (e + Int32.ofInt 1).toInt = (ve : Int) + 1 := mc_add he (by decide) (by omega) (by omega)
        refine mc_lvs (lv' := [(0, .ref 542), (1, .ref 571), (2, .int f), (3, .int s), (4, .int k), (5, .int w), (6, .int hd), (7, .int cp), (8, .int at'), (9, .int ph), (10, .int x), (11, .int (e + Int32.ofInt 1))]) (by simp) ?_
        refine ih (ve + 1) (e + Int32.ofInt 1) (by rw [e142]; omega) (by omega) (fun e' h' => kk' e' ?_)
        rw [ka_e, if_pos (by omega)]
        exact h'
set_option maxHeartbeats 4000000 in
set_option maxRecDepth 100000 in
theorem kz_a {l : Launch} {G : ax_T} {d : Nat} {h : ax_H} {n : Nat} (hd0 : 2 ≤ d) (H : mc_HW h n) {K : df_K} {kk : Nat} (hK : kz_K h kk K) {f s k w : Int32} (hf : f.toInt = 0) {size : Nat} (hs : s.toInt = (size : Int)) (hs1 : size ≤ 21) (hk : k.toInt = (kk : Int)) (hk5 : kk < 6) {F : Nat → Nat} (hF : ∀ j : Nat, j < size → ab_ri h 571 (j : Int) = (F j : Int)) (hF1 : ∀ j, F j < 14) {P : Prop} {W : Prop} (hw : w.toInt = 0 ∧ ¬ W ∨ w.toInt ≠ 0 ∧ W) : ∀ (c : Nat) (hd cp at' ph : Int32) (a head cap p : Nat), size < a + c → a ≤ size → hd.toInt = (head : Int) → cp.toInt = (cap : Int) → at'.toInt = (a : Int) → (∀ x : Nat, x < 14 → (ph.toInt = (x : Int) ↔ p = x)) → (P ↔ ka K F size W c a head cap p) → mc_R l G mt_X11_keepsAll d (mc_P h n fun y => y.toInt = 1 ∧ P ∨ y.toInt = 0 ∧ ¬ P) (14, [(0, .ref 542), (1, .ref 571), (2, .int f), (3, .int s), (4, .int k), (5, .int w), (6, .int hd), (7, .int cp), (8, .int at'), (9, .int ph)], [], h, n, 0, 0) := by
  have hmi : mt_X11_keepsAll ∈ mt_prog := List.mem_of_getElem? mi_X11_keepsAll
  intro c
  induction c with
  | zero =>
    intro hd cp at' ph a head cap p hc ha
    omega
  | succ c ih =>
    intro hd cp at' ph a head cap p hc ha ehd ecp eat eph hP
    refine mc_cx hmi 2 (F' := (17, [(0, .ref 542), (1, .ref 571), (2, .int f), (3, .int s), (4, .int k), (5, .int w), (6, .int hd), (7, .int cp), (8, .int at'), (9, .int ph)], [.int s, .int at'], h, n, 0, 0)) (by with_unfolding_all rfl) ?_
    refine mc_ci hmi (c := .ge) (tg := 240) (pc' := 20) rfl rfl rfl eat hs (fun (q143 : (size : Int) ≤ (a : Int)) => ?_) (fun (q143 : (a : Int) < (size : Int)) => ?_)
    · refine mc_cx hmi 1 (F' := (241, [(0, .ref 542), (1, .ref 571), (2, .int f), (3, .int s), (4, .int k), (5, .int w), (6, .int hd), (7, .int cp), (8, .int at'), (9, .int ph)], [.int (Int32.ofInt 1)], h, n, 0, 0)) (by with_unfolding_all rfl) ?_
      refine mc_ret hmi rfl rfl (mc_rb (by decide)) ⟨rfl, rfl, _, rfl, Or.inl ⟨by decide, hP.mpr ?_⟩⟩
      rw [ka]
      exact Or.inl (by omega)
    · have hsz : ¬ size ≤ a := by omega
      refine mc_cx hmi 4 (F' := (25, [(0, .ref 542), (1, .ref 571), (2, .int f), (3, .int s), (4, .int k), (5, .int w), (6, .int hd), (7, .int cp), (8, .int at'), (9, .int ph)], [.int (f + at'), .ref 571], h, n, 0, 0)) (by with_unfolding_all rfl) ?_
      have e144 : (f + at').toInt = 0 + (a : Int) := mc_add hf eat (by omega) (by omega)
      refine mc_iald hmi H (k := 571) (i := (0 + (a : Int))) (pc' := 26) rfl rfl rfl e144 (by omega) (by omega) rfl (fun y145 e146 r147 r148 => ?_)
      rw [e146] at r147 r148
      refine mc_cx hmi 3 (F' := (32, [(11, .int at'), (10, .int y145), (0, .ref 542), (1, .ref 571), (2, .int f), (3, .int s), (4, .int k), (5, .int w), (6, .int hd), (7, .int cp), (8, .int at'), (9, .int ph)], [], h, n, 0, 0)) (by with_unfolding_all rfl) ?_
      rw [Int.zero_add, hF a (by omega)] at e146
      refine mc_lvs (lv' := [(0, .ref 542), (1, .ref 571), (2, .int f), (3, .int s), (4, .int k), (5, .int w), (6, .int hd), (7, .int cp), (8, .int at'), (9, .int ph), (10, .int y145), (11, .int at')]) (by simp) ?_
      have hx14 := hF1 a
      refine kz_b hd0 H hK hf hs hs1 hk hk5 hF hF1 e146 (size - a) a at' eat (by omega) (fun e he => ?_)
      obtain ⟨k1, k2, k3, k4⟩ := ka_e_ok F (F a) (size - a) a
      have hae : a < ka_e F (F a) (size - a) a := by
        by_cases q : a = ka_e F (F a) (size - a) a
        · exact absurd (by rw [← q]) (k4 (by omega))
        · omega
      generalize hE : ka_e F (F a) (size - a) a = E at he k1 k2 k3 k4 hae
      generalize hX : F a = X at e146 hx14 k3 k4 hE
      refine mc_cx hmi 6 (F' := (66, [(12, .int (e - at')), (0, .ref 542), (1, .ref 571), (2, .int f), (3, .int s), (4, .int k), (5, .int w), (6, .int hd), (7, .int cp), (8, .int at'), (9, .int ph), (10, .int y145), (11, .int e)], [.int cp, .int y145], h, n, 0, 0)) (by with_unfolding_all rfl) ?_
      have e149 : (e - at').toInt = (E : Int) - (a : Int) := mc_sub he eat (by omega) (by omega)
      refine mc_ci hmi (c := .lt) (tg := 71) (pc' := 69) rfl rfl rfl e146 ecp (fun (q150 : (X : Int) < (cap : Int)) => ?_) (fun (q150 : (cap : Int) ≤ (X : Int)) => ?_)
      · have plain : ¬ (E < size ∧ X < F E) → mc_R l G mt_X11_keepsAll d (mc_P h n fun y => y.toInt = 1 ∧ P ∨ y.toInt = 0 ∧ ¬ P) (147, [(12, .int (e - at')), (0, .ref 542), (1, .ref 571), (2, .int f), (3, .int s), (4, .int k), (5, .int w), (6, .int hd), (7, .int cp), (8, .int at'), (9, .int ph), (10, .int y145), (11, .int e)], [], h, n, 0, 0) := by
          intro hu
          have go : (X ≤ head ∧ X ≠ p ∧ E - a ≤ K.1 X) → ∀ u : Int32, mc_R l G mt_X11_keepsAll d (mc_P h n fun y => y.toInt = 1 ∧ P ∨ y.toInt = 0 ∧ ¬ P) (225, [(12, .int (e - at')), (0, .ref 542), (1, .ref 571), (2, .int f), (3, .int s), (4, .int k), (5, .int w), (6, .int hd), (7, .int cp), (8, .int at'), (9, .int ph), (10, .int y145), (11, .int e), (13, .int u)], [], h, n, 0, 0) := by
            intro hp u
            refine mc_cx hmi 7 (F' := (14, [(8, .int e), (9, .int y145), (6, .int y145), (12, .int (e - at')), (0, .ref 542), (1, .ref 571), (2, .int f), (3, .int s), (4, .int k), (5, .int w), (7, .int cp), (10, .int y145), (11, .int e), (13, .int u)], [], h, n, 0, 0)) (by with_unfolding_all rfl) ?_
            refine mc_lvs (lv' := [(0, .ref 542), (1, .ref 571), (2, .int f), (3, .int s), (4, .int k), (5, .int w), (6, .int y145), (7, .int cp), (8, .int e), (9, .int y145)]) (by simp) ?_
            exact ih y145 cp e y145 E X cap X (by omega) (by omega) e146 ecp he (fun z hz => ⟨fun q => by omega, fun q => by omega⟩) (hP.trans (kz_p hX hE hsz (by omega) hu hp))
          have no : ¬ (X ≤ head ∧ X ≠ p ∧ E - a ≤ K.1 X) → ∀ lv : List (Nat × Value), (∀ q ∈ [(12, .int (e - at')), (0, .ref 542), (1, .ref 571), (2, .int f), (3, .int s), (4, .int k), (5, .int w), (6, .int hd), (7, .int cp), (8, .int at'), (9, .int ph), (10, .int y145), (11, .int e)], q ∈ lv) → ¬ (¬ W ∧ E = size ∧ ka_mb K X (E - a) head cap) → mc_R l G mt_X11_keepsAll d (mc_P h n fun y => y.toInt = 1 ∧ P ∨ y.toInt = 0 ∧ ¬ P) (223, lv, [], h, n, 0, 0) := by
            intro hp lv hlv hm
            refine mc_lvs hlv ?_
            refine mc_cx hmi 1 (F' := (224, [(12, .int (e - at')), (0, .ref 542), (1, .ref 571), (2, .int f), (3, .int s), (4, .int k), (5, .int w), (6, .int hd), (7, .int cp), (8, .int at'), (9, .int ph), (10, .int y145), (11, .int e)], [.int (Int32.ofInt 0)], h, n, 0, 0)) (by with_unfolding_all rfl) ?_
            exact mc_ret hmi rfl rfl (mc_rb (by decide)) ⟨rfl, rfl, _, rfl, Or.inr ⟨by decide, fun z => hm ((kz_m hX hE hsz (by omega) hu hp).mp (hP.mp z))⟩⟩
          have at183 : ¬ (X ≤ head ∧ X ≠ p ∧ E - a ≤ K.1 X) → mc_R l G mt_X11_keepsAll d (mc_P h n fun y => y.toInt = 1 ∧ P ∨ y.toInt = 0 ∧ ¬ P) (183, [(12, .int (e - at')), (0, .ref 542), (1, .ref 571), (2, .int f), (3, .int s), (4, .int k), (5, .int w), (6, .int hd), (7, .int cp), (8, .int at'), (9, .int ph), (10, .int y145), (11, .int e)], [], h, n, 0, 0) := by
            intro hp
            refine mc_cx hmi 3 (F' := (188, [(13, .int (Int32.ofInt 0)), (12, .int (e - at')), (0, .ref 542), (1, .ref 571), (2, .int f), (3, .int s), (4, .int k), (5, .int w), (6, .int hd), (7, .int cp), (8, .int at'), (9, .int ph), (10, .int y145), (11, .int e)], [.int (Int32.ofInt 0)], h, n, 0, 0)) (by with_unfolding_all rfl) ?_
            refine mc_cz hmi (c := .ne) (tg := 225) (pc' := 191) rfl rfl rfl (by decide) (fun (q151 : (0 : Int) ≠ 0) => ?_) (fun (q151 : (0 : Int) = 0) => ?_)
            · exact absurd rfl q151
            · refine mc_cx hmi 1 (F' := (193, [(13, .int (Int32.ofInt 0)), (12, .int (e - at')), (0, .ref 542), (1, .ref 571), (2, .int f), (3, .int s), (4, .int k), (5, .int w), (6, .int hd), (7, .int cp), (8, .int at'), (9, .int ph), (10, .int y145), (11, .int e)], [.int w], h, n, 0, 0)) (by with_unfolding_all rfl) ?_
              refine mc_cz hmi (c := .ne) (tg := 223) (pc' := 196) rfl rfl rfl rfl (fun (q152 : w.toInt ≠ 0) => ?_) (fun (q152 : w.toInt = 0) => ?_)
              · exact no hp _ (by simp) (fun q => q.1 (hw.elim (fun u => absurd u.1 q152) (fun u => u.2)))
              · have hW : ¬ W := hw.elim (fun u => u.2) (fun u => absurd q152 u.1)
                refine mc_cx hmi 2 (F' := (199, [(13, .int (Int32.ofInt 0)), (12, .int (e - at')), (0, .ref 542), (1, .ref 571), (2, .int f), (3, .int s), (4, .int k), (5, .int w), (6, .int hd), (7, .int cp), (8, .int at'), (9, .int ph), (10, .int y145), (11, .int e)], [.int s, .int e], h, n, 0, 0)) (by with_unfolding_all rfl) ?_
                refine mc_ci hmi (c := .ne) (tg := 223) (pc' := 202) rfl rfl rfl he hs (fun (q153 : (E : Int) ≠ (size : Int)) => ?_) (fun (q153 : (E : Int) = (size : Int)) => ?_)
                · exact no hp _ (by simp) (fun q => absurd q.2.1 (by omega))
                · refine mc_cx hmi 6 (F' := (213, [(13, .int (Int32.ofInt 0)), (12, .int (e - at')), (0, .ref 542), (1, .ref 571), (2, .int f), (3, .int s), (4, .int k), (5, .int w), (6, .int hd), (7, .int cp), (8, .int at'), (9, .int ph), (10, .int y145), (11, .int e)], [.int cp, .int hd, .int (e - at'), .int y145, .int k, .ref 542], h, n, 0, 0)) (by with_unfolding_all rfl) ?_
                  refine mc_callP hmi (en := (213, .invokevirtual 158, 3, (3, 170, 11, 0), [1346, 82, 1344])) rfl (q := (mt_X11_mayBegin, [.ref 542, .int k, .int y145, .int (e - at'), .int hd, .int cp], [])) (mc_inv H (as := [.int k, .int y145, .int (e - at'), .int hd, .int cp]) (rest := []) rfl (by with_unfolding_all rfl) rfl rfl rfl) ⟨rfl, rfl⟩ (pc' := 216) rfl (kz_mayBegin (by omega) H hK hk hk5 e146 hx14 (show (e - at').toInt = ((E - a : Nat) : Int) by rw [e149]; omega) ehd ecp (by omega)) (fun y154 e155 => ?_)
                  refine mc_cz hmi (c := .eq) (tg := 223) (pc' := 219) rfl rfl rfl rfl (fun (q156 : y154.toInt = 0) => ?_) (fun (q156 : y154.toInt ≠ 0) => ?_)
                  · exact no hp _ (by simp) (fun q => e155.elim (fun u => absurd u.1 (by omega)) (fun u => u.2 q.2.2))
                  · refine mc_cx hmi 2 (F' := (224, [(13, .int (Int32.ofInt 0)), (12, .int (e - at')), (0, .ref 542), (1, .ref 571), (2, .int f), (3, .int s), (4, .int k), (5, .int w), (6, .int hd), (7, .int cp), (8, .int at'), (9, .int ph), (10, .int y145), (11, .int e)], [.int (Int32.ofInt 1)], h, n, 0, 0)) (by with_unfolding_all rfl) ?_
                    exact mc_ret hmi rfl rfl (mc_rb (by decide)) ⟨rfl, rfl, _, rfl, Or.inl ⟨by decide, hP.mpr ((kz_m hX hE hsz (by omega) hu hp).mpr ⟨hW, by omega, e155.elim (fun u => u.2) (fun u => absurd u.1 q156)⟩)⟩⟩
          have hph := eph X hx14
          refine mc_cx hmi 2 (F' := (151, [(12, .int (e - at')), (0, .ref 542), (1, .ref 571), (2, .int f), (3, .int s), (4, .int k), (5, .int w), (6, .int hd), (7, .int cp), (8, .int at'), (9, .int ph), (10, .int y145), (11, .int e)], [.int hd, .int y145], h, n, 0, 0)) (by with_unfolding_all rfl) ?_
          refine mc_ci hmi (c := .gt) (tg := 183) (pc' := 154) rfl rfl rfl e146 ehd (fun (q157 : (head : Int) < (X : Int)) => ?_) (fun (q157 : (X : Int) ≤ (head : Int)) => ?_)
          · exact at183 (fun q => absurd q.1 (by omega))
          · refine mc_cx hmi 2 (F' := (158, [(12, .int (e - at')), (0, .ref 542), (1, .ref 571), (2, .int f), (3, .int s), (4, .int k), (5, .int w), (6, .int hd), (7, .int cp), (8, .int at'), (9, .int ph), (10, .int y145), (11, .int e)], [.int ph, .int y145], h, n, 0, 0)) (by with_unfolding_all rfl) ?_
            refine mc_ci hmi (c := .eq) (tg := 183) (pc' := 161) rfl rfl rfl e146 rfl (fun (q158 : (X : Int) = ph.toInt) => ?_) (fun (q158 : (X : Int) ≠ ph.toInt) => ?_)
            · exact at183 (fun q => q.2.1 (hph.mp q158.symm).symm)
            · have hnp : X ≠ p := fun q => q158 (hph.mpr q.symm).symm
              refine mc_cx hmi 2 (F' := (164, [(12, .int (e - at')), (0, .ref 542), (1, .ref 571), (2, .int f), (3, .int s), (4, .int k), (5, .int w), (6, .int hd), (7, .int cp), (8, .int at'), (9, .int ph), (10, .int y145), (11, .int e)], [.ref 542, .int (e - at')], h, n, 0, 0)) (by with_unfolding_all rfl) ?_
              refine mc_getr hmi H (k := 542) (c := 546) (pc' := 167) rfl rfl rfl rfl rfl ?_
              refine mc_cx hmi 5 (F' := (175, [(12, .int (e - at')), (0, .ref 542), (1, .ref 571), (2, .int f), (3, .int s), (4, .int k), (5, .int w), (6, .int hd), (7, .int cp), (8, .int at'), (9, .int ph), (10, .int y145), (11, .int e)], [.int (((Int8.ofInt 14).toInt32 * k) + y145), .ref 546, .int (e - at')], h, n, 0, 0)) (by with_unfolding_all rfl) ?_
              have e159 : ((Int8.ofInt 14).toInt32 * k).toInt = 14 * (kk : Int) := mc_mul (by decide) hk (by omega) (by omega)
              have e160 : (((Int8.ofInt 14).toInt32 * k) + y145).toInt = (14 * (kk : Int)) + (X : Int) := mc_add e159 e146 (by omega) (by omega)
              refine mc_iald hmi H (k := 546) (i := ((14 * (kk : Int)) + (X : Int))) (pc' := 176) rfl rfl rfl e160 (by omega) (by omega) rfl (fun y161 e162 r163 r164 => ?_)
              rw [e162] at r163 r164
              rw [(hK X hx14).1] at e162
              refine mc_ci hmi (c := .gt) (tg := 183) (pc' := 179) rfl rfl rfl e149 e162 (fun (q165 : (K.1 X : Int) < ((E : Int) - (a : Int))) => ?_) (fun (q165 : ((E : Int) - (a : Int)) ≤ (K.1 X : Int)) => ?_)
              · exact at183 (fun q => absurd q.2.2 (by omega))
              · refine mc_cx hmi 4 (F' := (188, [(13, .int (Int32.ofInt 1)), (12, .int (e - at')), (0, .ref 542), (1, .ref 571), (2, .int f), (3, .int s), (4, .int k), (5, .int w), (6, .int hd), (7, .int cp), (8, .int at'), (9, .int ph), (10, .int y145), (11, .int e)], [.int (Int32.ofInt 1)], h, n, 0, 0)) (by with_unfolding_all rfl) ?_
                refine mc_cz hmi (c := .ne) (tg := 225) (pc' := 191) rfl rfl rfl (by decide) (fun (q166 : (1 : Int) ≠ 0) => ?_) (fun (q166 : (1 : Int) = 0) => ?_)
                · refine mc_lvs (lv' := [(12, .int (e - at')), (0, .ref 542), (1, .ref 571), (2, .int f), (3, .int s), (4, .int k), (5, .int w), (6, .int hd), (7, .int cp), (8, .int at'), (9, .int ph), (10, .int y145), (11, .int e), (13, .int (Int32.ofInt 1))]) (by simp) ?_
                  exact go ⟨by omega, hnp, by omega⟩ _
                · exact absurd q166 (by decide)
        refine mc_cx hmi 2 (F' := (74, [(12, .int (e - at')), (0, .ref 542), (1, .ref 571), (2, .int f), (3, .int s), (4, .int k), (5, .int w), (6, .int hd), (7, .int cp), (8, .int at'), (9, .int ph), (10, .int y145), (11, .int e)], [.int s, .int e], h, n, 0, 0)) (by with_unfolding_all rfl) ?_
        refine mc_ci hmi (c := .ge) (tg := 147) (pc' := 77) rfl rfl rfl he hs (fun (q167 : (size : Int) ≤ (E : Int)) => ?_) (fun (q167 : (E : Int) < (size : Int)) => ?_)
        · exact plain (fun q => absurd q.1 (by omega))
        · refine mc_cx hmi 4 (F' := (82, [(12, .int (e - at')), (0, .ref 542), (1, .ref 571), (2, .int f), (3, .int s), (4, .int k), (5, .int w), (6, .int hd), (7, .int cp), (8, .int at'), (9, .int ph), (10, .int y145), (11, .int e)], [.int (f + e), .ref 571], h, n, 0, 0)) (by with_unfolding_all rfl) ?_
          have e168 : (f + e).toInt = 0 + (E : Int) := mc_add hf he (by omega) (by omega)
          refine mc_iald hmi H (k := 571) (i := (0 + (E : Int))) (pc' := 83) rfl rfl rfl e168 (by omega) (by omega) rfl (fun y169 e170 r171 r172 => ?_)
          rw [e170] at r171 r172
          refine mc_cx hmi 1 (F' := (85, [(12, .int (e - at')), (0, .ref 542), (1, .ref 571), (2, .int f), (3, .int s), (4, .int k), (5, .int w), (6, .int hd), (7, .int cp), (8, .int at'), (9, .int ph), (10, .int y145), (11, .int e)], [.int y145, .int y169], h, n, 0, 0)) (by with_unfolding_all rfl) ?_
          rw [Int.zero_add, hF E (by omega)] at e170
          refine mc_ci hmi (c := .le) (tg := 147) (pc' := 88) rfl rfl rfl e170 e146 (fun (q173 : (F E : Int) ≤ (X : Int)) => ?_) (fun (q173 : (X : Int) < (F E : Int)) => ?_)
          · exact plain (fun q => absurd q.2 (by omega))
          · refine mc_cx hmi 4 (F' := (93, [(12, .int (e - at')), (0, .ref 542), (1, .ref 571), (2, .int f), (3, .int s), (4, .int k), (5, .int w), (6, .int hd), (7, .int cp), (8, .int at'), (9, .int ph), (10, .int y145), (11, .int e)], [.int (f + e), .ref 571], h, n, 0, 0)) (by with_unfolding_all rfl) ?_
            have e174 : (f + e).toInt = 0 + (E : Int) := mc_add hf he (by omega) (by omega)
            refine mc_iald hmi H (k := 571) (i := (0 + (E : Int))) (pc' := 94) rfl rfl rfl e174 (by omega) (by omega) rfl (fun y175 e176 r177 r178 => ?_)
            rw [e176] at r177 r178
            refine mc_cx hmi 3 (F' := (100, [(13, .int y175), (12, .int (e - at')), (0, .ref 542), (1, .ref 571), (2, .int f), (3, .int s), (4, .int k), (5, .int w), (6, .int hd), (7, .int cp), (8, .int at'), (9, .int ph), (10, .int y145), (11, .int e)], [.int cp, .int y175], h, n, 0, 0)) (by with_unfolding_all rfl) ?_
            rw [Int.zero_add, hF E (by omega)] at e176
            have hE14 := hF1 E
            have hE1 : E < size := by omega
            have hE2 : X < F E := by omega
            have no : ¬ (F E < cap ∧ F E ≤ head ∧ ka_mt K X (F E) (E - a)) → mc_R l G mt_X11_keepsAll d (mc_P h n fun y => y.toInt = 1 ∧ P ∨ y.toInt = 0 ∧ ¬ P) (125, [(13, .int y175), (12, .int (e - at')), (0, .ref 542), (1, .ref 571), (2, .int f), (3, .int s), (4, .int k), (5, .int w), (6, .int hd), (7, .int cp), (8, .int at'), (9, .int ph), (10, .int y145), (11, .int e)], [], h, n, 0, 0) := by
              intro hno
              refine mc_cx hmi 1 (F' := (126, [(13, .int y175), (12, .int (e - at')), (0, .ref 542), (1, .ref 571), (2, .int f), (3, .int s), (4, .int k), (5, .int w), (6, .int hd), (7, .int cp), (8, .int at'), (9, .int ph), (10, .int y145), (11, .int e)], [.int (Int32.ofInt 0)], h, n, 0, 0)) (by with_unfolding_all rfl) ?_
              exact mc_ret hmi rfl rfl (mc_rb (by decide)) ⟨rfl, rfl, _, rfl, Or.inr ⟨by decide, fun z => kz_n hX hE hsz hE1 hE2 hno (hP.mp z)⟩⟩
            refine mc_ci hmi (c := .ge) (tg := 125) (pc' := 103) rfl rfl rfl e176 ecp (fun (q179 : (cap : Int) ≤ (F E : Int)) => ?_) (fun (q179 : (F E : Int) < (cap : Int)) => ?_)
            · exact no (fun q => absurd q.1 (by omega))
            · refine mc_cx hmi 2 (F' := (107, [(13, .int y175), (12, .int (e - at')), (0, .ref 542), (1, .ref 571), (2, .int f), (3, .int s), (4, .int k), (5, .int w), (6, .int hd), (7, .int cp), (8, .int at'), (9, .int ph), (10, .int y145), (11, .int e)], [.int hd, .int y175], h, n, 0, 0)) (by with_unfolding_all rfl) ?_
              refine mc_ci hmi (c := .gt) (tg := 125) (pc' := 110) rfl rfl rfl e176 ehd (fun (q180 : (head : Int) < (F E : Int)) => ?_) (fun (q180 : (F E : Int) ≤ (head : Int)) => ?_)
              · exact no (fun q => absurd q.2.1 (by omega))
              · refine mc_cx hmi 5 (F' := (119, [(13, .int y175), (12, .int (e - at')), (0, .ref 542), (1, .ref 571), (2, .int f), (3, .int s), (4, .int k), (5, .int w), (6, .int hd), (7, .int cp), (8, .int at'), (9, .int ph), (10, .int y145), (11, .int e)], [.int (e - at'), .int y175, .int y145, .int k, .ref 542], h, n, 0, 0)) (by with_unfolding_all rfl) ?_
                refine mc_callP hmi (en := (119, .invokevirtual 154, 3, (3, 169, 11, 0), [1342, 81, 1340])) rfl (q := (mt_X11_mayTake, [.ref 542, .int k, .int y145, .int y175, .int (e - at')], [])) (mc_inv H (as := [.int k, .int y145, .int y175, .int (e - at')]) (rest := []) rfl (by with_unfolding_all rfl) rfl rfl rfl) ⟨rfl, rfl⟩ (pc' := 122) rfl (kz_mayTake (by omega) H hK hk hk5 e146 hx14 e176 hE14 (show (e - at').toInt = ((E - a : Nat) : Int) by rw [e149]; omega)) (fun y181 e182 => ?_)
                refine mc_cz hmi (c := .ne) (tg := 127) (pc' := 125) rfl rfl rfl rfl (fun (q183 : y181.toInt ≠ 0) => ?_) (fun (q183 : y181.toInt = 0) => ?_)
                · have hmt := e182.elim (fun u => u.2) (fun u => absurd u.1 q183)
                  refine mc_cx hmi 12 (F' := (14, [(8, .int (e + (Int32.ofInt 1))), (9, .int (Int32.ofInt (-1))), (7, .int y145), (6, .int y145), (13, .int y175), (12, .int (e - at')), (0, .ref 542), (1, .ref 571), (2, .int f), (3, .int s), (4, .int k), (5, .int w), (10, .int y145), (11, .int e)], [], h, n, 0, 0)) (by with_unfolding_all rfl) ?_
                  have e184 : (e + (Int32.ofInt 1)).toInt = (E : Int) + 1 := mc_add he (by decide) (by omega) (by omega)
                  refine mc_lvs (lv' := [(0, .ref 542), (1, .ref 571), (2, .int f), (3, .int s), (4, .int k), (5, .int w), (6, .int y145), (7, .int y145), (8, .int (e + (Int32.ofInt 1))), (9, .int (Int32.ofInt (-1)))]) (by simp) ?_
                  refine ih y145 y145 (e + (Int32.ofInt 1)) (Int32.ofInt (-1)) (E + 1) X X 15 (by omega) (by omega) e146 e146 (by rw [e184]; omega) (fun z hz => ⟨fun q => ?_, fun q => by omega⟩) (hP.trans (kz_u hX hE hsz (by omega) hE1 hE2 (by omega) (by omega) hmt))
                  rw [show (Int32.ofInt (-1)).toInt = (-1 : Int) by decide] at q
                  omega
                · exact no (fun q => e182.elim (fun u => absurd u.1 (by omega)) (fun u => u.2 q.2.2))
      · refine mc_cx hmi 1 (F' := (70, [(12, .int (e - at')), (0, .ref 542), (1, .ref 571), (2, .int f), (3, .int s), (4, .int k), (5, .int w), (6, .int hd), (7, .int cp), (8, .int at'), (9, .int ph), (10, .int y145), (11, .int e)], [.int (Int32.ofInt 0)], h, n, 0, 0)) (by with_unfolding_all rfl) ?_
        exact mc_ret hmi rfl rfl (mc_rb (by decide)) ⟨rfl, rfl, _, rfl, Or.inr ⟨by decide, fun z => kz_c hsz (by rw [hX]; omega) (hP.mp z)⟩⟩
set_option maxRecDepth 100000 in
theorem kz_keepsAll {l : Launch} {G : ax_T} {d : Nat} {h : ax_H} {n : Nat} (hd0 : 3 ≤ d) (H : mc_HW h n) {K : df_K} {kk : Nat} (hK : kz_K h kk K) {f s k w : Int32} (hf : f.toInt = 0) {size : Nat} (hs : s.toInt = (size : Int)) (hs1 : size ≤ 21) (hk : k.toInt = (kk : Int)) (hk5 : kk < 6) {F : Nat → Nat} (hF : ∀ j : Nat, j < size → ab_ri h 571 (j : Int) = (F j : Int)) (hF1 : ∀ j, F j < 14) {W : Prop} (hw : w.toInt = 0 ∧ ¬ W ∨ w.toInt ≠ 0 ∧ W) : mc_M l G d mt_X11_keepsAll [.ref 542, .ref 571, .int f, .int s, .int k, .int w] h n (mc_P h n fun y => y.toInt = 1 ∧ ka K F size W (size + 1) 0 13 14 15 ∨ y.toInt = 0 ∧ ¬ ka K F size W (size + 1) 0 13 14 15) := by
  obtain ⟨d, rfl⟩ : ∃ e, d = e + 1 := ⟨d - 1, by omega⟩
  have hmi : mt_X11_keepsAll ∈ mt_prog := List.mem_of_getElem? mi_X11_keepsAll
  refine mc_to hmi rfl ?_
  show mc_R _ _ _ _ _ (0, [(0, .ref 542), (1, .ref 571), (2, .int f), (3, .int s), (4, .int k), (5, .int w)], [], h, n, 0, 0)
  refine mc_cx hmi 8 (F' := (14, [(9, .int (Int32.ofInt (-1))), (8, .int (Int32.ofInt 0)), (7, .int (Int8.ofInt 14).toInt32), (6, .int (Int8.ofInt 13).toInt32), (0, .ref 542), (1, .ref 571), (2, .int f), (3, .int s), (4, .int k), (5, .int w)], [], h, n, 0, 0)) (by with_unfolding_all rfl) ?_
  refine mc_lvs (lv' := [(0, .ref 542), (1, .ref 571), (2, .int f), (3, .int s), (4, .int k), (5, .int w), (6, .int (Int8.ofInt 13).toInt32), (7, .int (Int8.ofInt 14).toInt32), (8, .int (Int32.ofInt 0)), (9, .int (Int32.ofInt (-1)))]) (by simp) ?_
  refine kz_a (by omega) H hK hf hs hs1 hk hk5 hF hF1 hw (size + 1) (Int8.ofInt 13).toInt32 (Int8.ofInt 14).toInt32 (Int32.ofInt 0) (Int32.ofInt (-1)) 0 13 14 15 (by omega) (Nat.zero_le _) (by decide) (by decide) (by decide) (fun z hz => ⟨fun q => ?_, fun q => by omega⟩) Iff.rfl
  rw [show (Int32.ofInt (-1)).toInt = (-1 : Int) by decide] at q
  omega
end
