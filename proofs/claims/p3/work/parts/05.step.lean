/-! ===== a machine over the numbered cells that a program can run: one step ===== -/
/-- resolved: kind (0 field, 1 nest mate's field, 2 static array, 3 method, 4 nest mate's method, 5 class, 6 int, 7 long, 8 Object's constructor, 9 Math.min, 10 Math.max), two numbers, a constant -/
abbrev ax_PE : Type := Nat × Nat × Nat × Int
/-- pc, instruction, its length, what it names, places of its words in the tables -/
abbrev ax_EN : Type := Nat × Instr × Nat × ax_PE × List Nat
/-- class, name, bytes, locals, answer's type, number of arguments, new cells, new slots, instructions in lists of pc / 32 -/
abbrev ax_MI : Type := String × MethodName × ByteArray × Nat × Option FieldType × Nat × Nat × Nat × List (List ax_EN)
/-- a cell as data: an array's contents as the list of what was stored, the latest first -/
abbrev ax_D : Type := (Nat × Nat × (List (Nat × Int32) ⊕ List (Nat × Option Nat))) ⊕ (Nat × List Value)
def ax_fi : List (Nat × Int32) → Nat → Int32
  | [] => fun _ => 0
  | q :: l => upd (ax_fi l) q.1 q.2
def ax_fr : List (Nat × Option Nat) → Nat → Option Nat
  | [] => fun _ => none
  | q :: l => va_up (ax_fr l) q.1 q.2
def ax_un : ax_D → ax_C
  | .inl (t, n, .inl l) => .inl (t, n, .inl (ax_fi l))
  | .inl (t, n, .inr l) => .inl (t, n, .inr (ax_fr l))
  | .inr o => .inr o
/-- cells in lists of 32 -/
abbrev ax_H : Type := List (List ax_D)
def ax_raw (h : ax_H) (k : Nat) : Option ax_D := (h.getD (k / 32) [])[k % 32]?
def ax_hget (h : ax_H) (k : Nat) : Option ax_C := (ax_raw h k).map ax_un
theorem ax_get_of {h : ax_H} {k : Nat} {d : ax_D} (hk : ax_raw h k = some d) : ax_hget h k = some (ax_un d) := by unfold ax_hget; rw [hk]; rfl
def ax_hset (h : ax_H) (k : Nat) (c : ax_D) : ax_H := h.set (k / 32) ((h.getD (k / 32) []).set (k % 32) c)
def ax_hpush (h : ax_H) (n : Nat) (c : ax_D) : ax_H :=
  bif (h.getD (n / 32) []).length == n % 32 then (bif Nat.blt (n / 32) h.length then h.set (n / 32) (h.getD (n / 32) [] ++ [c]) else bif n / 32 == h.length then h ++ [[c]] else h) else h
theorem ax_dm {j k : Nat} (h1 : j / 32 = k / 32) (h2 : j % 32 = k % 32) : j = k := by omega
theorem ax_raw_set {h : ax_H} {k : Nat} {c : ax_D} : ∀ (j : Nat) (d : ax_D), ax_raw (ax_hset h k c) j = some d → (j = k ∧ d = c) ∨ (j ≠ k ∧ ax_raw h j = some d) := by
  intro j d hd
  unfold ax_raw ax_hset at hd
  unfold ax_raw
  by_cases h1 : j / 32 = k / 32
  · by_cases hl : k / 32 < h.length
    · rw [h1, List.getD_eq_getElem?_getD, List.getElem?_set_self hl] at hd
      simp only [Option.getD_some] at hd
      by_cases h2 : j % 32 = k % 32
      · left
        refine ⟨ax_dm h1 h2, ?_⟩
        rw [h2] at hd
        have hlt : k % 32 < (h.getD (k / 32) []).length := by
          have := (List.getElem?_eq_some_iff.mp hd).1
          simpa using this
        rw [List.getElem?_set_self hlt] at hd
        exact (Option.some.inj hd).symm
      · right
        refine ⟨fun e => h2 (by rw [e]), ?_⟩
        rw [List.getElem?_set_ne (Ne.symm h2)] at hd
        rw [h1]; exact hd
    · rw [List.set_eq_of_length_le (by omega)] at hd
      have : h.getD (j / 32) [] = [] := by rw [List.getD_eq_getElem?_getD, List.getElem?_eq_none (by omega)]; rfl
      rw [this] at hd
      simp at hd
  · right
    refine ⟨fun e => h1 (by rw [e]), ?_⟩
    rw [List.getD_eq_getElem?_getD, List.getElem?_set_ne (Ne.symm h1), ← List.getD_eq_getElem?_getD] at hd
    exact hd
theorem ax_raw_push {h : ax_H} {n : Nat} {c : ax_D} : ∀ (j : Nat) (d : ax_D), ax_raw (ax_hpush h n c) j = some d → (j = n ∧ d = c) ∨ ax_raw h j = some d := by
  intro j d hd
  unfold ax_hpush at hd
  cases e1 : ((h.getD (n / 32) []).length == n % 32) with
  | false => rw [e1] at hd; exact Or.inr hd
  | true =>
    rw [e1] at hd
    simp only [cond_true] at hd
    have e1' : (h.getD (n / 32) []).length = n % 32 := by simpa using e1
    cases e2 : Nat.blt (n / 32) h.length with
    | true =>
      rw [e2] at hd
      simp only [cond_true] at hd
      have e2' : n / 32 < h.length := by simpa [Nat.blt_eq] using e2
      unfold ax_raw at hd ⊢
      by_cases h1 : j / 32 = n / 32
      · rw [h1, List.getD_eq_getElem?_getD, List.getElem?_set_self e2'] at hd
        simp only [Option.getD_some] at hd
        by_cases h2 : j % 32 < (h.getD (n / 32) []).length
        · rw [List.getElem?_append_left h2] at hd
          right; rw [h1]; exact hd
        · rw [List.getElem?_append_right (by omega)] at hd
          have hz : j % 32 - (h.getD (n / 32) []).length < 1 := (List.getElem?_eq_some_iff.mp hd).1
          have hz0 : j % 32 - (h.getD (n / 32) []).length = 0 := by omega
          rw [hz0] at hd
          left
          exact ⟨ax_dm h1 (by omega), (Option.some.inj hd).symm⟩
      · rw [List.getD_eq_getElem?_getD, List.getElem?_set_ne (Ne.symm h1), ← List.getD_eq_getElem?_getD] at hd
        exact Or.inr hd
    | false =>
      rw [e2] at hd
      simp only [cond_false] at hd
      cases e3 : (n / 32 == h.length) with
      | false => rw [e3] at hd; exact Or.inr hd
      | true =>
        rw [e3] at hd
        simp only [cond_true] at hd
        have e3' : n / 32 = h.length := by simpa using e3
        have e4 : n % 32 = 0 := by
          rw [← e1', e3', List.getD_eq_getElem?_getD, List.getElem?_eq_none (Nat.le_refl _)]; rfl
        unfold ax_raw at hd ⊢
        by_cases h1 : j / 32 < h.length
        · rw [List.getD_eq_getElem?_getD, List.getElem?_append_left h1, ← List.getD_eq_getElem?_getD] at hd
          exact Or.inr hd
        · rw [List.getD_eq_getElem?_getD, List.getElem?_append_right (by omega)] at hd
          by_cases h2 : j / 32 = h.length
          · rw [h2, Nat.sub_self] at hd
            simp only [List.getElem?_cons_zero, Option.getD_some] at hd
            have hz : j % 32 < 1 := (List.getElem?_eq_some_iff.mp hd).1
            have hz0 : j % 32 = 0 := by omega
            rw [hz0] at hd
            left
            exact ⟨ax_dm (by omega) (by omega), (Option.some.inj hd).symm⟩
          · rw [List.getElem?_eq_none (show [[c]].length ≤ j / 32 - h.length by show 1 ≤ _; omega)] at hd
            simp at hd
theorem ax_hget_set {h : ax_H} {k : Nat} {c : ax_D} : ∀ (j : Nat) (d : ax_C), ax_hget (ax_hset h k c) j = some d → (j = k ∧ d = ax_un c) ∨ (j ≠ k ∧ ax_hget h j = some d) := by
  intro j d hd
  unfold ax_hget at hd ⊢
  obtain ⟨x, hx, rfl⟩ := Option.map_eq_some_iff.mp hd
  rcases ax_raw_set j x hx with ⟨h1, rfl⟩ | ⟨h1, h2⟩
  · exact Or.inl ⟨h1, rfl⟩
  · exact Or.inr ⟨h1, by rw [h2]; rfl⟩
theorem ax_hget_push {h : ax_H} {n : Nat} {c : ax_D} : ∀ (j : Nat) (d : ax_C), ax_hget (ax_hpush h n c) j = some d → (j = n ∧ d = ax_un c) ∨ ax_hget h j = some d := by
  intro j d hd
  unfold ax_hget at hd ⊢
  obtain ⟨x, hx, rfl⟩ := Option.map_eq_some_iff.mp hd
  rcases ax_raw_push j x hx with ⟨h1, rfl⟩ | h2
  · exact Or.inl ⟨h1, rfl⟩
  · exact Or.inr (by rw [h2]; rfl)
/-- bounds of an int, exact or a symbol -/
def ax_rg (iv : Nat → Int × Int) : Value → Option (Int × Int)
  | .int x => some (x.toInt, x.toInt)
  | .float u => some (iv u.toNat)
  | _ => none
def ax_lt (a b : Int × Int) : Option Bool := bif decide (a.2 < b.1) then some true else bif decide (b.2 ≤ a.1) then some false else none
def ax_eq (a b : Int × Int) : Option Bool := bif decide (a.2 < b.1) || decide (b.2 < a.1) then some false else bif decide (a.1 = a.2) && (decide (b.1 = b.2) && decide (a.1 = b.1)) then some true else none
def ax_cmp (c : ClassFile.Cond) (a b : Int × Int) : Option Bool := match c with
  | .eq => ax_eq a b
  | .ne => (ax_eq a b).map (!·)
  | .lt => ax_lt a b
  | .ge => (ax_lt a b).map (!·)
  | .gt => ax_lt b a
  | .le => (ax_lt b a).map (!·)
def ax_holds (c : ClassFile.Cond) (x y : Int32) : Prop := match c with
  | .eq => x = y
  | .ne => ¬ x = y
  | .lt => x < y
  | .ge => y ≤ x
  | .gt => y < x
  | .le => x ≤ y
theorem ax_lt_ok {a b : Int × Int} {x y : Int32} (hx : a.1 ≤ x.toInt ∧ x.toInt ≤ a.2) (hy : b.1 ≤ y.toInt ∧ y.toInt ≤ b.2) {t : Bool} (h : ax_lt a b = some t) : (x < y ↔ t = true) := by
  unfold ax_lt at h
  rw [Int32.lt_iff_toInt_lt]
  cases e1 : decide (a.2 < b.1) with
  | true =>
    rw [e1] at h
    have := of_decide_eq_true e1
    cases h
    exact ⟨fun _ => rfl, fun _ => by omega⟩
  | false =>
    rw [e1] at h
    simp only [cond_false] at h
    cases e2 : decide (b.2 ≤ a.1) with
    | true =>
      rw [e2] at h
      have := of_decide_eq_true e2
      cases h
      exact ⟨fun _ => by omega, fun h => by cases h⟩
    | false => rw [e2] at h; cases h
theorem ax_eq_ok {a b : Int × Int} {x y : Int32} (hx : a.1 ≤ x.toInt ∧ x.toInt ≤ a.2) (hy : b.1 ≤ y.toInt ∧ y.toInt ≤ b.2) {t : Bool} (h : ax_eq a b = some t) : (x = y ↔ t = true) := by
  unfold ax_eq at h
  cases e1 : decide (a.2 < b.1) || decide (b.2 < a.1) with
  | true =>
    rw [e1] at h
    cases h
    refine ⟨fun e => ?_, fun h => by cases h⟩
    subst e
    simp only [Bool.or_eq_true, decide_eq_true_eq] at e1
    omega
  | false =>
    rw [e1] at h
    simp only [cond_false] at h
    cases e2 : decide (a.1 = a.2) && (decide (b.1 = b.2) && decide (a.1 = b.1)) with
    | true =>
      rw [e2] at h
      cases h
      simp only [Bool.and_eq_true, decide_eq_true_eq] at e2
      exact ⟨fun _ => rfl, fun _ => Int32.toInt_inj.mp (by omega)⟩
    | false => rw [e2] at h; cases h
theorem ax_cmp_ok {c : ClassFile.Cond} {a b : Int × Int} {x y : Int32} (hx : a.1 ≤ x.toInt ∧ x.toInt ≤ a.2) (hy : b.1 ≤ y.toInt ∧ y.toInt ≤ b.2) {t : Bool} (h : ax_cmp c a b = some t) : (ax_holds c x y ↔ t = true) := by
  cases c with
  | eq => exact ax_eq_ok hx hy h
  | ne =>
    simp only [ax_cmp, Option.map_eq_some_iff] at h
    obtain ⟨u, hu, rfl⟩ := h
    have := ax_eq_ok hx hy hu
    simp only [ax_holds, this]
    cases u <;> simp
  | lt => exact ax_lt_ok hx hy h
  | ge =>
    simp only [ax_cmp, Option.map_eq_some_iff] at h
    obtain ⟨u, hu, rfl⟩ := h
    have := ax_lt_ok hx hy hu
    simp only [ax_holds, ← Int32.not_lt, this]
    cases u <;> simp
  | gt => exact ax_lt_ok hy hx h
  | le =>
    simp only [ax_cmp, Option.map_eq_some_iff] at h
    obtain ⟨u, hu, rfl⟩ := h
    have := ax_lt_ok hy hx hu
    simp only [ax_holds, ← Int32.not_lt, this]
    cases u <;> simp
def ax_fit (ty : FieldType) : Value → Bool
  | .int x => decide (narrow ty (.int x) = .int x) && fits ty (.int x)
  | .long x => fits ty (.long x)
  | .ref _ => fits ty .null
  | .retAddr _ => fits ty .null
  | .null => fits ty .null
  | .float _ => decide (ty = .int)
  | .double _ => false
theorem ax_fit_ok (G : ax_T) {ty : FieldType} {v : Value} (h : ax_fit ty v = true) : narrow ty (ax_v G v) = ax_v G v ∧ fits ty (ax_v G v) = true := by
  cases v with
  | int x => simp only [ax_fit, Bool.and_eq_true, decide_eq_true_eq] at h; exact h
  | long x => refine ⟨by cases ty <;> rfl, h⟩
  | ref k => refine ⟨by cases ty <;> rfl, ?_⟩; cases ty <;> first | rfl | (cases h)
  | retAddr k => refine ⟨by cases ty <;> rfl, ?_⟩; cases ty <;> first | rfl | (cases h)
  | null => refine ⟨by cases ty <;> rfl, h⟩
  | float u => have := of_decide_eq_true h; subst this; exact ⟨rfl, rfl⟩
  | double u => cases h
def ax_look (lv : List (Nat × Value)) (k : Nat) : Option Value := (lv.find? fun q => q.1 == k).map (·.2)
theorem ax_look_ok {G : ax_T} {ls : Array Slot} {nL : Nat} {lv : List (Nat × Value)} (hl : lv_has ls nL (lv.map fun q => (q.1, ax_v G q.2))) {k : Nat} {v : Value} (h : ax_look lv k = some v) : ls[k]? = some (.val (ax_v G v)) := by
  unfold ax_look at h
  cases e : lv.find? (fun q => q.1 == k) with
  | none => rw [e] at h; cases h
  | some q =>
    rw [e] at h
    have h1 : q.2 = v := Option.some.inj h
    have h2 : q.1 = k := by simpa using List.find?_some e
    have := hl.2.2 (q.1, ax_v G q.2) (List.mem_map.mpr ⟨q, List.mem_of_find?_eq_some e, rfl⟩)
    rw [← h1, ← h2]; exact this
def ax_put1 (lv : List (Nat × Value)) (i : Nat) (v : Value) : List (Nat × Value) := (i, v) :: lv.filter (fun q => !(q.1 == i) && !(q.1 + 1 == i && q.2.category == 2))
def ax_put2 (lv : List (Nat × Value)) (i : Nat) (v : Value) : List (Nat × Value) := (i, v) :: lv.filter (fun q => !(q.1 == i) && (!(q.1 == i + 1) && !(q.1 + 1 == i && q.2.category == 2)))
theorem ax_put1_map (G : ax_T) (lv : List (Nat × Value)) (i : Nat) (v : Value) : (i, ax_v G v) :: (lv.map fun q => (q.1, ax_v G q.2)).filter (fun q => !(q.1 == i) && !(q.1 + 1 == i && q.2.category == 2)) = (ax_put1 lv i v).map fun q => (q.1, ax_v G q.2) := by
  unfold ax_put1
  rw [List.map_cons, List.filter_map]
  congr 2
  apply List.filter_congr
  intro q _
  simp [ax_cat]
theorem ax_put2_map (G : ax_T) (lv : List (Nat × Value)) (i : Nat) (v : Value) : (i, ax_v G v) :: (lv.map fun q => (q.1, ax_v G q.2)).filter (fun q => !(q.1 == i) && (!(q.1 == i + 1) && !(q.1 + 1 == i && q.2.category == 2))) = (ax_put2 lv i v).map fun q => (q.1, ax_v G q.2) := by
  unfold ax_put2
  rw [List.map_cons, List.filter_map]
  congr 2
  apply List.filter_congr
  intro q _
  simp [ax_cat]
/-- pc, locals, stack, cells, how many, new cells and slots so far -/
abbrev ax_F : Type := Nat × List (Nat × Value) × List Value × ax_H × Nat × Nat × Nat
def ax_to (pc : Nat) (off : Int) : Option Nat := bif decide (0 ≤ (pc : Int) + off) then some ((pc : Int) + off).toNat else none
theorem ax_to_ok {pc t : Nat} {off : Int} (h : ax_to pc off = some t) : (pc : Int) + off = (t : Int) := by
  unfold ax_to at h
  cases e : decide (0 ≤ (pc : Int) + off) with
  | false => rw [e] at h; cases h
  | true =>
    rw [e] at h
    have := of_decide_eq_true e
    cases h
    omega
def ax_inB (i : Int32) (N : Nat) : Bool := decide (0 ≤ i.toInt) && decide (i.toInt < N)
theorem ax_inB_ok {i : Int32} {N : Nat} (h : ax_inB i N = true) : vp_in i N := by
  simp only [ax_inB, Bool.and_eq_true, decide_eq_true_eq] at h
  exact vp_in_iff.mpr h
/-- class of the objects that an array of references holds, by the number of the array's type -/
def ax_tc : Nat → Option (Nat × String)
  | 2 => some (5, "LetterSums$Row")
  | 3 => some (1, "LetterSums$Custom")
  | 4 => some (3, "LetterSums$Mason")
  | _ => none
theorem ax_tc_ok {t ci : Nat} {C : String} (h : ax_tc t = some (ci, C)) : ax_tn[t]? = some (.object C) ∧ ∃ T N, ax_cl[ci]? = some (C, T, N) := by
  match t, h with
  | 2, h => cases h; exact ⟨rfl, _, _, rfl⟩
  | 3, h => cases h; exact ⟨rfl, _, _, rfl⟩
  | 4, h => cases h; exact ⟨rfl, _, _, rfl⟩
  | 0, h => cases h
  | 1, h => cases h
  | n + 5, h => cases h
section STEP
variable (iv : Nat → Int × Int) (nL : Nat) (pe : ax_PE) (pc : Nat) (lv : List (Nat × Value)) (st : List Value) (h : ax_H) (n cs ss : Nat)
def ax_s_push (len : Nat) (v : Value) : Option ax_F := some (pc + len, lv, v :: st, h, n, cs, ss)
def ax_s_ld (len k : Nat) (kind : Nat) : Option ax_F := match ax_look lv k with
  | some (.int x) => bif kind == 0 then some (pc + len, lv, .int x :: st, h, n, cs, ss) else none
  | some (.float x) => bif kind == 0 then some (pc + len, lv, .float x :: st, h, n, cs, ss) else none
  | some (.ref x) => bif kind == 1 then some (pc + len, lv, .ref x :: st, h, n, cs, ss) else none
  | some (.retAddr x) => bif kind == 1 then some (pc + len, lv, .retAddr x :: st, h, n, cs, ss) else none
  | some (.long x) => bif kind == 2 then some (pc + len, lv, .long x :: st, h, n, cs, ss) else none
  | _ => none
def ax_s_st (len k : Nat) (kind : Nat) : Option ax_F := match st with
  | .int x :: st => bif kind == 0 && Nat.blt k nL then some (pc + len, ax_put1 lv k (.int x), st, h, n, cs, ss) else none
  | .float x :: st => bif kind == 0 && Nat.blt k nL then some (pc + len, ax_put1 lv k (.float x), st, h, n, cs, ss) else none
  | .ref x :: st => bif kind == 1 && Nat.blt k nL then some (pc + len, ax_put1 lv k (.ref x), st, h, n, cs, ss) else none
  | .retAddr x :: st => bif kind == 1 && Nat.blt k nL then some (pc + len, ax_put1 lv k (.retAddr x), st, h, n, cs, ss) else none
  | .long x :: st => bif kind == 2 && Nat.blt (k + 1) nL then some (pc + len, ax_put2 lv k (.long x), st, h, n, cs, ss) else none
  | _ => none
def ax_s_i2 (op : Int32 → Int32 → Int32) : Option ax_F := match st with
  | .int y :: .int x :: st => some (pc + 1, lv, .int (op x y) :: st, h, n, cs, ss)
  | _ => none
def ax_s_l2 (op : Int64 → Int64 → Int64) : Option ax_F := match st with
  | .long y :: .long x :: st => some (pc + 1, lv, .long (op x y) :: st, h, n, cs, ss)
  | _ => none
def ax_s_div (op : Int32 → Int32 → Int32) : Option ax_F := match st with
  | .int y :: .int x :: st => bif decide (y = 0) then none else some (pc + 1, lv, .int (op x y) :: st, h, n, cs, ss)
  | _ => none
def ax_s_br (c : ClassFile.Cond) (off : Int) (a b : Value) (st : List Value) : Option ax_F := match ax_to pc off with
  | none => none
  | some tg => match ax_rg iv a, ax_rg iv b with
    | some ra, some rb => match ax_cmp c ra rb with
      | some true => some (tg, lv, st, h, n, cs, ss)
      | some false => some (pc + 3, lv, st, h, n, cs, ss)
      | none => none
    | _, _ => none
def ax_s_getf : Option ax_F := match st with
  | .ref k :: st => match ax_raw h k with
    | some (.inr (ci, fs)) => bif ci == pe.2.1 then (fs[pe.2.2.1]?).map fun v => (pc + 3, lv, v :: st, h, n, cs, ss) else none
    | _ => none
  | _ => none
def ax_s_putf : Option ax_F := match st with
  | v :: .ref k :: st => match ax_raw h k with
    | some (.inr (ci, fs)) => bif ci == pe.2.1 && (Nat.blt pe.2.2.1 fs.length && ax_fit (ax_ty pe.2.1 pe.2.2.1) v) then some (pc + 3, lv, st, ax_hset h k (.inr (ci, fs.set pe.2.2.1 v)), n, cs, ss) else none
    | _ => none
  | _ => none
def ax_s_iald : Option ax_F := match st with
  | .int i :: .ref k :: st => match ax_raw h k with
    | some (.inl (t, N, .inl f)) => bif t == 0 && ax_inB i N then some (pc + 1, lv, .int (ax_fi f i.toNatClampNeg) :: st, h, n, cs, ss) else none
    | _ => none
  | .int i :: .retAddr j :: st => match ax_st[j]? with
    | some z => bif ax_inB i z.2.2.length then some (pc + 1, lv, .int (z.2.2.getD i.toNatClampNeg 0) :: st, h, n, cs, ss) else none
    | none => none
  | _ => none
def ax_s_bald : Option ax_F := match st with
  | .int i :: .ref k :: st => match ax_raw h k with
    | some (.inl (t, N, .inl f)) => bif t == 1 && ax_inB i N then some (pc + 1, lv, .int (ax_fi f i.toNatClampNeg) :: st, h, n, cs, ss) else none
    | _ => none
  | _ => none
def ax_s_aald : Option ax_F := match st with
  | .int i :: .ref k :: st => match ax_raw h k with
    | some (.inl (t, N, .inr f)) => match ax_tc t with
      | some _ => bif ax_inB i N then (ax_fr f i.toNatClampNeg).map fun k' => (pc + 1, lv, .ref k' :: st, h, n, cs, ss) else none
      | none => none
    | _ => none
  | _ => none
def ax_s_iast : Option ax_F := match st with
  | .int x :: .int i :: .ref k :: st => match ax_raw h k with
    | some (.inl (t, N, .inl f)) => bif t == 0 && ax_inB i N then some (pc + 1, lv, st, ax_hset h k (.inl (t, N, .inl ((i.toNatClampNeg, x) :: f))), n, cs, ss) else none
    | _ => none
  | _ => none
def ax_s_bast : Option ax_F := match st with
  | .int x :: .int i :: .ref k :: st => match ax_raw h k with
    | some (.inl (t, N, .inl f)) => bif t == 1 && (ax_inB i N && decide (vp_nar .byte x = x)) then some (pc + 1, lv, st, ax_hset h k (.inl (t, N, .inl ((i.toNatClampNeg, x) :: f))), n, cs, ss) else none
    | _ => none
  | _ => none
def ax_s_alen : Option ax_F := match st with
  | .ref k :: st => match ax_raw h k with
    | some (.inl (t, N, .inl _)) => bif Nat.blt t 2 then some (pc + 1, lv, .int (Int32.ofNat N) :: st, h, n, cs, ss) else none
    | _ => none
  | _ => none
def ax_s_li (op : Int64 → Int32 → Int64) : Option ax_F := match st with
  | .int y :: .long x :: st => some (pc + 1, lv, .long (op x y) :: st, h, n, cs, ss)
  | _ => none
def ax_s_aast : Option ax_F := match st with
  | .ref k' :: .int i :: .ref k :: st => match ax_raw h k, ax_raw h k' with
    | some (.inl (t, N, .inr f)), some (.inr (ci, _)) => match ax_tc t with
      | some q => bif ci == q.1 && ax_inB i N then some (pc + 1, lv, st, ax_hset h k (.inl (t, N, .inr ((i.toNatClampNeg, some k') :: f))), n, cs, ss) else none
      | none => none
    | _, _ => none
  | _ => none
def ax_s_newa : Option ax_F := match st with
  | .int i :: st => bif decide (0 ≤ i.toInt) && decide (i.toNatClampNeg * 8 ≤ 536870912) then some (pc + 2, lv, .ref n :: st, ax_hpush h n (.inl (pe.2.1, i.toNatClampNeg, .inl [])), n + 1, cs + 1, ss + i.toNatClampNeg) else none
  | _ => none
def ax_s_newq : Option ax_F := match st with
  | .int i :: st => bif decide (0 ≤ i.toInt) && decide (i.toNatClampNeg * 4 ≤ 536870912) then some (pc + 3, lv, .ref n :: st, ax_hpush h n (.inl (pe.2.1, i.toNatClampNeg, .inr [])), n + 1, cs + 1, ss + i.toNatClampNeg) else none
  | _ => none
def ax_s_table (d lo hi : Int) (offs : Array Int) : Option ax_F := match st with
  | .int x :: st => bif decide (x.toInt < lo) || decide (hi < x.toInt) then (ax_to pc d).map fun t => (t, lv, st, h, n, cs, ss)
      else match offs[(x.toInt - lo).toNat]? with
        | some off => (ax_to pc off).map fun t => (t, lv, st, h, n, cs, ss)
        | none => none
  | .float u :: st => bif decide ((iv u.toNat).2 < lo) || decide (hi < (iv u.toNat).1) then (ax_to pc d).map fun t => (t, lv, st, h, n, cs, ss) else none
  | _ => none
def ax_s_lookup (d : Int) (ps : Array (Int × Int)) : Option ax_F := bif (ps.toList.zip (ps.toList.drop 1)).all (fun (a, next) => a.1 < next.1) then (match st with
  | .int x :: st => (ax_to pc (Op.lookupswitch.offset ps.toList d x.toInt)).map fun t => (t, lv, st, h, n, cs, ss)
  | .float u :: st => bif ps.toList.all (fun q => decide ((iv u.toNat).2 < q.1) || decide (q.1 < (iv u.toNat).1)) then (ax_to pc d).map fun t => (t, lv, st, h, n, cs, ss) else none
  | _ => none) else none
end STEP
/-- one step, but calls and returns -/
def ax_step (iv : Nat → Int × Int) (nL : Nat) (i : Instr) (pe : ax_PE) (pc : Nat) (lv : List (Nat × Value)) (st : List Value) (h : ax_H) (n cs ss : Nat) : Option ax_F := match i with
  | .iconst k => ax_s_push pc lv st h n cs ss 1 (.int (Int32.ofInt k))
  | .bipush k => ax_s_push pc lv st h n cs ss 2 (.int (Int8.ofInt k).toInt32)
  | .sipush k => ax_s_push pc lv st h n cs ss 3 (.int (Int16.ofInt k).toInt32)
  | .lconst k => ax_s_push pc lv st h n cs ss 1 (.long (Int64.ofNat (k : Nat)))
  | .ldc _ => ax_s_push pc lv st h n cs ss 2 (.int (Int32.ofInt pe.2.2.2))
  | .ldc_w _ => ax_s_push pc lv st h n cs ss 3 (.int (Int32.ofInt pe.2.2.2))
  | .ldc2_w _ => ax_s_push pc lv st h n cs ss 3 (.long (Int64.ofInt pe.2.2.2))
  | .iload k => ax_s_ld pc lv st h n cs ss 2 k 0
  | .iload_n k => ax_s_ld pc lv st h n cs ss 1 k 0
  | .aload k => ax_s_ld pc lv st h n cs ss 2 k 1
  | .aload_n k => ax_s_ld pc lv st h n cs ss 1 k 1
  | .lload k => ax_s_ld pc lv st h n cs ss 2 k 2
  | .lload_n k => ax_s_ld pc lv st h n cs ss 1 k 2
  | .istore k => ax_s_st nL pc lv st h n cs ss 2 k 0
  | .istore_n k => ax_s_st nL pc lv st h n cs ss 1 k 0
  | .astore k => ax_s_st nL pc lv st h n cs ss 2 k 1
  | .astore_n k => ax_s_st nL pc lv st h n cs ss 1 k 1
  | .lstore k => ax_s_st nL pc lv st h n cs ss 2 k 2
  | .lstore_n k => ax_s_st nL pc lv st h n cs ss 1 k 2
  | .iinc k x => match ax_look lv k with
    | some (.int v) => bif Nat.blt k nL then some (pc + 3, ax_put1 lv k (.int (v + Int32.ofInt x)), st, h, n, cs, ss) else none
    | _ => none
  | .iadd => ax_s_i2 pc lv st h n cs ss (fun x y => x + y)
  | .isub => ax_s_i2 pc lv st h n cs ss (fun x y => x - y)
  | .imul => ax_s_i2 pc lv st h n cs ss (fun x y => x * y)
  | .iand => ax_s_i2 pc lv st h n cs ss (fun x y => x &&& y)
  | .ior => ax_s_i2 pc lv st h n cs ss (fun x y => x ||| y)
  | .ishl => ax_s_i2 pc lv st h n cs ss (fun x y => x <<< (y &&& 31))
  | .ishr => ax_s_i2 pc lv st h n cs ss (fun x y => x >>> (y &&& 31))
  | .idiv => ax_s_div pc lv st h n cs ss (fun x y => x / y)
  | .irem => ax_s_div pc lv st h n cs ss (fun x y => x - x / y * y)
  | .ineg => match st with
    | .int x :: st => some (pc + 1, lv, .int (-x) :: st, h, n, cs, ss)
    | _ => none
  | .ladd => ax_s_l2 pc lv st h n cs ss (fun x y => x + y)
  | .lmul => ax_s_l2 pc lv st h n cs ss (fun x y => x * y)
  | .land => ax_s_l2 pc lv st h n cs ss (fun x y => x &&& y)
  | .lshr => ax_s_li pc lv st h n cs ss (fun x y => x >>> (y.toInt64 &&& 63))
  | .lushr => ax_s_li pc lv st h n cs ss (fun x y => (x.toUInt64 >>> (y.toInt64.toUInt64 &&& Int64.toUInt64 63)).toInt64)
  | .iushr => ax_s_i2 pc lv st h n cs ss (fun x y => (x.toUInt32 >>> (y.toUInt32 &&& Int32.toUInt32 31)).toInt32)
  | .l2i => match st with
    | .long x :: st => some (pc + 1, lv, .int x.toInt32 :: st, h, n, cs, ss)
    | _ => none
  | .i2b => match st with
    | .int x :: st => some (pc + 1, lv, .int x.toInt8.toInt32 :: st, h, n, cs, ss)
    | _ => none
  | .i2c => match st with
    | .int x :: st => some (pc + 1, lv, .int (x.toUInt32 % 65536).toInt32 :: st, h, n, cs, ss)
    | _ => none
  | .bastore => ax_s_bast pc lv st h n cs ss
  | .arraylength => ax_s_alen pc lv st h n cs ss
  | .i2l => match st with
    | .int x :: st => some (pc + 1, lv, .long x.toInt64 :: st, h, n, cs, ss)
    | _ => none
  | .dup => match st with
    | v :: st => bif v.category == 1 then some (pc + 1, lv, v :: v :: st, h, n, cs, ss) else none
    | _ => none
  | .dup2 => match st with
    | v :: w :: st => bif v.category == 1 && w.category == 1 then some (pc + 1, lv, v :: w :: v :: w :: st, h, n, cs, ss) else none
    | _ => none
  | .pop => match st with
    | v :: st => bif v.category == 1 then some (pc + 1, lv, st, h, n, cs, ss) else none
    | _ => none
  | .goto off => (ax_to pc off).map fun t => (t, lv, st, h, n, cs, ss)
  | .ifCond c off => match st with
    | a :: st => ax_s_br iv pc lv h n cs ss c off a (.int 0) st
    | _ => none
  | .if_icmp c off => match st with
    | b :: a :: st => ax_s_br iv pc lv h n cs ss c off a b st
    | _ => none
  | .getfield _ => ax_s_getf pe pc lv st h n cs ss
  | .putfield _ => ax_s_putf pe pc lv st h n cs ss
  | .getstatic _ => ax_s_push pc lv st h n cs ss 3 (.retAddr pe.2.1)
  | .iaload => ax_s_iald pc lv st h n cs ss
  | .baload => ax_s_bald pc lv st h n cs ss
  | .aaload => ax_s_aald pc lv st h n cs ss
  | .iastore => ax_s_iast pc lv st h n cs ss
  | .aastore => ax_s_aast pc lv st h n cs ss
  | .new _ => some (pc + 3, lv, .ref n :: st, ax_hpush h n (.inr (pe.2.1, ax_born pe.2.1 pe.2.2.1)), n + 1, cs + 1, ss + pe.2.2.1)
  | .newarray _ => ax_s_newa pe pc lv st h n cs ss
  | .anewarray _ => ax_s_newq pe pc lv st h n cs ss
  | .tableswitch d lo hi offs => ax_s_table iv pc lv st h n cs ss d lo hi offs
  | .lookupswitch d ps => ax_s_lookup iv pc lv st h n cs ss d ps
  | .invokespecial _ => match st with
    | .ref _ :: st => bif pe.1 == 8 && Nat.ble (ax_sum st) 8 then some (pc + 3, lv, st, h, n, cs, ss) else none
    | _ => none
  | .invokestatic _ => match st with
    | .int y :: .int x :: st => bif pe.1 == 9 && Nat.ble (ax_sum st) 8 then some (pc + 3, lv, .int (if y < x then y else x) :: st, h, n, cs, ss) else none
    | _ => none
  | _ => none
