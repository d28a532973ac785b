section
/-! ===== times, in the class: halves and doubles (ways printed by wip/safe/path.py) ===== -/
def hl : Nat → Nat → Nat
  | 0, _ => 0
  | f + 1, x => if x = 0 then 0 else hl f (x / 2) + 1
theorem cx_shr {a k : Nat} (ha : a < 2 ^ 31) (hk : k < 32) : nI a >>> (nI k &&& 31) = nI (a / 2 ^ k) := by
  apply Int32.toInt_inj.mp
  have h1 : a / 2 ^ k ≤ a := Nat.div_le_self _ _
  rw [pk_shr (nI a) (nI k &&& 31) k (ab_s31 k hk), Int.shiftRight_eq_div_pow, nI_toInt ha, nI_toInt (by omega)]
  rfl
theorem cx_and1 {a : Nat} (ha : a < 2 ^ 31) : nI a &&& Int32.ofInt 1 = nI (a % 2) := by
  rw [ab_andN ha]
  congr 1
  exact Nat.and_one_is_mod a
theorem cx_shl {a k : Nat} (hk : k < 32) (hb : a * 2 ^ k < 2 ^ 31) : nI a <<< (nI k &&& 31) = nI (a * 2 ^ k) := pk_shlN (nI k &&& 31) k (ab_s31 k hk) (by omega)
theorem cx_of (k : Nat) : Int32.ofInt (k : Int) = nI k := rfl
theorem cx_8 {k : Nat} (hk : k ≤ 127) : (Int8.ofInt (k : Int)).toInt32 = nI k := ab_i8 (by omega) (by omega)
theorem cx_16 {k : Nat} (hk : k ≤ 32767) : (Int16.ofInt (k : Int)).toInt32 = nI k := ab_i16 (by omega) (by omega)
theorem hl_lt : ∀ (f x k : Nat), k < hl f x ↔ k < f ∧ 0 < x / 2 ^ k
  | 0, x, k => by simp [hl]
  | f + 1, x, k => by
    by_cases hx : x = 0
    · subst hx
      simp [hl]
    · rw [show hl (f + 1) x = hl f (x / 2) + 1 from if_neg hx]
      cases k with
      | zero =>
        simp only [Nat.pow_zero, Nat.div_one]
        omega
      | succ k =>
        have ih := hl_lt f (x / 2) k
        rw [Nat.pow_succ, Nat.mul_comm, ← Nat.div_div_eq_div_mul]
        omega
theorem hv_loop {l : Launch} {G : ax_T} {d : Nat} {a : Int32} {h : ax_H} {n : Nat} : ∀ (f x c : Nat), x < 2 ^ f → f ≤ 30 → ab_Wd l G mt_X10_halvings d (some (.int (nI (c + hl f x))), h, n) (4, [(2, .int (nI x)), (1, .int (nI c)), (0, .int a)], [], h, n, 0, 0) := by
  have hmi : mt_X10_halvings ∈ mt_prog := List.mem_of_getElem? mi_X10_halvings
  intro f
  induction f with
  | zero =>
    intro x c h1 _
    have hx0 : x = 0 := by omega
    have hx : ax_holds .le (nI x) 0 := by
      show nI x ≤ 0
      rw [hx0]
      decide
    refine ab_Wd_step mt_ok hmi (en := (4, .iload_n 2, 1, (0, 0, 0, 0), [])) rfl (F := (5, [(2, .int (nI x)), (1, .int (nI c)), (0, .int a)], [.int (nI x)], h, n, 0, 0)) rfl (Nat.zero_le _) (Nat.zero_le _) ?_
    refine cx_zt hmi rfl (tg := 18) rfl hx ?_
    refine ab_Wd_step mt_ok hmi (en := (18, .iload_n 1, 1, (0, 0, 0, 0), [])) rfl (F := (19, [(2, .int (nI x)), (1, .int (nI c)), (0, .int a)], [.int (nI c)], h, n, 0, 0)) rfl (Nat.zero_le _) (Nat.zero_le _) ?_
    exact ab_Wd_ret mt_ok hmi rfl rfl rfl (Nat.zero_le _) (Nat.zero_le _)
  | succ f ih =>
    intro x c h1 hf
    have hp : 2 ^ (f + 1) ≤ 2 ^ 30 := Nat.pow_le_pow_right (by decide) hf
    refine ab_Wd_step mt_ok hmi (en := (4, .iload_n 2, 1, (0, 0, 0, 0), [])) rfl (F := (5, [(2, .int (nI x)), (1, .int (nI c)), (0, .int a)], [.int (nI x)], h, n, 0, 0)) rfl (Nat.zero_le _) (Nat.zero_le _) ?_
    by_cases hx0 : x = 0
    · have hx : ax_holds .le (nI x) 0 := by
        show nI x ≤ 0
        rw [hx0]
        decide
      rw [show hl (f + 1) x = 0 from if_pos hx0]
      refine cx_zt hmi rfl (tg := 18) rfl hx ?_
      refine ab_Wd_step mt_ok hmi (en := (18, .iload_n 1, 1, (0, 0, 0, 0), [])) rfl (F := (19, [(2, .int (nI x)), (1, .int (nI c)), (0, .int a)], [.int (nI c)], h, n, 0, 0)) rfl (Nat.zero_le _) (Nat.zero_le _) ?_
      exact ab_Wd_ret mt_ok hmi rfl rfl rfl (Nat.zero_le _) (Nat.zero_le _)
    · have hx : ¬ ax_holds .le (nI x) 0 := nI_nle (by omega) (by omega)
      refine cx_zf hmi rfl (tg := 18) rfl hx ?_
      refine ab_Wd_step mt_ok hmi (en := (8, .iinc 1 1, 3, (0, 0, 0, 0), [])) rfl (F := (11, [(1, .int ((nI c) + Int32.ofInt 1)), (2, .int (nI x)), (0, .int a)], [], h, n, 0, 0)) rfl (Nat.zero_le _) (Nat.zero_le _) ?_
      refine ab_Wd_step mt_ok hmi (en := (11, .iload_n 2, 1, (0, 0, 0, 0), [])) rfl (F := (12, [(1, .int ((nI c) + Int32.ofInt 1)), (2, .int (nI x)), (0, .int a)], [.int (nI x)], h, n, 0, 0)) rfl (Nat.zero_le _) (Nat.zero_le _) ?_
      refine ab_Wd_step mt_ok hmi (en := (12, .iconst 1, 1, (0, 0, 0, 0), [])) rfl (F := (13, [(1, .int ((nI c) + Int32.ofInt 1)), (2, .int (nI x)), (0, .int a)], [.int (Int32.ofInt 1), .int (nI x)], h, n, 0, 0)) rfl (Nat.zero_le _) (Nat.zero_le _) ?_
      refine ab_Wd_step mt_ok hmi (en := (13, .ishr, 1, (0, 0, 0, 0), [])) rfl (F := (14, [(1, .int ((nI c) + Int32.ofInt 1)), (2, .int (nI x)), (0, .int a)], [.int ((nI x) >>> ((Int32.ofInt 1) &&& 31))], h, n, 0, 0)) rfl (Nat.zero_le _) (Nat.zero_le _) ?_
      refine ab_Wd_step mt_ok hmi (en := (14, .istore_n 2, 1, (0, 0, 0, 0), [])) rfl (F := (15, [(2, .int ((nI x) >>> ((Int32.ofInt 1) &&& 31))), (1, .int ((nI c) + Int32.ofInt 1)), (0, .int a)], [], h, n, 0, 0)) rfl (Nat.zero_le _) (Nat.zero_le _) ?_
      refine ab_Wd_step mt_ok hmi (en := (15, .goto (-11), 3, (0, 0, 0, 0), [])) rfl (F := (4, [(2, .int ((nI x) >>> ((Int32.ofInt 1) &&& 31))), (1, .int ((nI c) + Int32.ofInt 1)), (0, .int a)], [], h, n, 0, 0)) rfl (Nat.zero_le _) (Nat.zero_le _) ?_
      have hi := ih (x / 2) (c + 1) (by omega) (by omega)
      rw [show nI x >>> (Int32.ofInt 1 &&& 31) = nI (x / 2) from cx_shr (k := 1) (by omega) (by decide), show nI c + Int32.ofInt 1 = nI (c + 1) from nI_1 c]
      rw [show c + hl (f + 1) x = c + 1 + hl f (x / 2) from by rw [show hl (f + 1) x = hl f (x / 2) + 1 from if_neg hx0]; omega]
      exact hi
theorem hv_ok {l : Launch} {G : ax_T} {d : Nat} {x : Nat} (hx : x < 2 ^ 14) (h : ax_H) (n : Nat) : ab_M l G (d + 1) mt_X10_halvings [.int (nI x)] h n (some (.int (nI (hl 14 x))), h, n) := by
  have hmi : mt_X10_halvings ∈ mt_prog := List.mem_of_getElem? mi_X10_halvings
  refine ab_Wd_call mt_ok hmi (Nat.le_of_ble_eq_true rfl) rfl ?_
  show ab_Wd l G mt_X10_halvings d _ (0, [(0, .int (nI x))], [], h, n, 0, 0)
  refine ab_Wd_step mt_ok hmi (en := (0, .iconst 0, 1, (0, 0, 0, 0), [])) rfl (F := (1, [(0, .int (nI x))], [.int (Int32.ofInt 0)], h, n, 0, 0)) rfl (Nat.zero_le _) (Nat.zero_le _) ?_
  refine ab_Wd_step mt_ok hmi (en := (1, .istore_n 1, 1, (0, 0, 0, 0), [])) rfl (F := (2, [(1, .int (Int32.ofInt 0)), (0, .int (nI x))], [], h, n, 0, 0)) rfl (Nat.zero_le _) (Nat.zero_le _) ?_
  refine ab_Wd_step mt_ok hmi (en := (2, .iload_n 0, 1, (0, 0, 0, 0), [])) rfl (F := (3, [(1, .int (Int32.ofInt 0)), (0, .int (nI x))], [.int (nI x)], h, n, 0, 0)) rfl (Nat.zero_le _) (Nat.zero_le _) ?_
  refine ab_Wd_step mt_ok hmi (en := (3, .istore_n 2, 1, (0, 0, 0, 0), [])) rfl (F := (4, [(2, .int (nI x)), (1, .int (Int32.ofInt 0)), (0, .int (nI x))], [], h, n, 0, 0)) rfl (Nat.zero_le _) (Nat.zero_le _) ?_
  have := hv_loop (l := l) (G := G) (d := d) (a := nI x) (h := h) (n := n) 14 x 0 hx (by decide)
  rw [Nat.zero_add] at this
  exact this
/-- what is summed up of the first lines -/
def tp (a b : Nat) : Nat → Nat
  | 0 => 0
  | k + 1 => tp a b k + (if a / 2 ^ k % 2 = 1 then b * 2 ^ k else 0)
theorem tp_le (a b : Nat) : ∀ k : Nat, tp a b k + b ≤ b * 2 ^ k
  | 0 => by simp [tp]
  | k + 1 => by
    have ih := tp_le a b k
    have : b * 2 ^ (k + 1) = b * 2 ^ k + b * 2 ^ k := by rw [Nat.pow_succ, ← Nat.mul_assoc]; omega
    unfold tp
    split <;> omega
theorem pr_loop {l : Launch} {G : ax_T} {d : Nat} {a b : Nat} (ha : a < 2 ^ 14) (hb : b < 2 ^ 14) {h : ax_H} {n : Nat} : ∀ (f i : Nat), i + f = 14 → i ≤ hl 14 a → ab_Wd l G mt_X10_product (d + 1) (some (.int (nI (tp a b (hl 14 a)))), h, n) (4, [(3, .int (nI i)), (2, .int (nI (tp a b i))), (0, .int (nI a)), (1, .int (nI b))], [], h, n, 0, 0) := by
  have hmi : mt_X10_product ∈ mt_prog := List.mem_of_getElem? mi_X10_product
  have h14 : hl 14 a ≤ 14 := by
    refine Nat.not_lt.mp fun q => ?_
    have := (hl_lt 14 a 14).mp q
    omega
  intro f
  induction f with
  | zero =>
    intro i hi hil
    have hc : ax_holds .ge (nI i) (nI (hl 14 a)) := nI_le (by omega) (by omega)
    have he : hl 14 a = i := by omega
    refine ab_Wd_step mt_ok hmi (en := (4, .iload_n 3, 1, (0, 0, 0, 0), [])) rfl (F := (5, [(3, .int (nI i)), (2, .int (nI (tp a b i))), (0, .int (nI a)), (1, .int (nI b))], [.int (nI i)], h, n, 0, 0)) rfl (Nat.zero_le _) (Nat.zero_le _) ?_
    refine ab_Wd_step mt_ok hmi (en := (5, .iload_n 0, 1, (0, 0, 0, 0), [])) rfl (F := (6, [(3, .int (nI i)), (2, .int (nI (tp a b i))), (0, .int (nI a)), (1, .int (nI b))], [.int (nI a), .int (nI i)], h, n, 0, 0)) rfl (Nat.zero_le _) (Nat.zero_le _) ?_
    refine cx_call hmi rfl rfl ⟨rfl, rfl⟩ (hv_ok ha h n) ?_
    refine cx_it hmi rfl (tg := 33) rfl hc ?_
    refine ab_Wd_step mt_ok hmi (en := (33, .iload_n 2, 1, (0, 0, 0, 0), [])) rfl (F := (34, [(3, .int (nI i)), (2, .int (nI (tp a b i))), (0, .int (nI a)), (1, .int (nI b))], [.int (nI (tp a b i))], h, n, 0, 0)) rfl (Nat.zero_le _) (Nat.zero_le _) ?_
    rw [he]
    exact ab_Wd_ret mt_ok hmi rfl rfl rfl (Nat.zero_le _) (Nat.zero_le _)
  | succ f ih =>
    intro i hi hil
    refine ab_Wd_step mt_ok hmi (en := (4, .iload_n 3, 1, (0, 0, 0, 0), [])) rfl (F := (5, [(3, .int (nI i)), (2, .int (nI (tp a b i))), (0, .int (nI a)), (1, .int (nI b))], [.int (nI i)], h, n, 0, 0)) rfl (Nat.zero_le _) (Nat.zero_le _) ?_
    refine ab_Wd_step mt_ok hmi (en := (5, .iload_n 0, 1, (0, 0, 0, 0), [])) rfl (F := (6, [(3, .int (nI i)), (2, .int (nI (tp a b i))), (0, .int (nI a)), (1, .int (nI b))], [.int (nI a), .int (nI i)], h, n, 0, 0)) rfl (Nat.zero_le _) (Nat.zero_le _) ?_
    refine cx_call hmi rfl rfl ⟨rfl, rfl⟩ (hv_ok ha h n) ?_
    by_cases hlt : i < hl 14 a
    · have hc : ¬ ax_holds .ge (nI i) (nI (hl 14 a)) := nI_ge hlt (by omega)
      refine cx_if hmi rfl (tg := 33) rfl hc ?_
      refine ab_Wd_step mt_ok hmi (en := (12, .iload_n 0, 1, (0, 0, 0, 0), [])) rfl (F := (13, [(3, .int (nI i)), (2, .int (nI (tp a b i))), (0, .int (nI a)), (1, .int (nI b))], [.int (nI a)], h, n, 0, 0)) rfl (Nat.zero_le _) (Nat.zero_le _) ?_
      refine ab_Wd_step mt_ok hmi (en := (13, .iload_n 3, 1, (0, 0, 0, 0), [])) rfl (F := (14, [(3, .int (nI i)), (2, .int (nI (tp a b i))), (0, .int (nI a)), (1, .int (nI b))], [.int (nI i), .int (nI a)], h, n, 0, 0)) rfl (Nat.zero_le _) (Nat.zero_le _) ?_
      refine ab_Wd_step mt_ok hmi (en := (14, .ishr, 1, (0, 0, 0, 0), [])) rfl (F := (15, [(3, .int (nI i)), (2, .int (nI (tp a b i))), (0, .int (nI a)), (1, .int (nI b))], [.int ((nI a) >>> ((nI i) &&& 31))], h, n, 0, 0)) rfl (Nat.zero_le _) (Nat.zero_le _) ?_
      refine ab_Wd_step mt_ok hmi (en := (15, .iconst 1, 1, (0, 0, 0, 0), [])) rfl (F := (16, [(3, .int (nI i)), (2, .int (nI (tp a b i))), (0, .int (nI a)), (1, .int (nI b))], [.int (Int32.ofInt 1), .int ((nI a) >>> ((nI i) &&& 31))], h, n, 0, 0)) rfl (Nat.zero_le _) (Nat.zero_le _) ?_
      refine ab_Wd_step mt_ok hmi (en := (16, .iand, 1, (0, 0, 0, 0), [])) rfl (F := (17, [(3, .int (nI i)), (2, .int (nI (tp a b i))), (0, .int (nI a)), (1, .int (nI b))], [.int (((nI a) >>> ((nI i) &&& 31)) &&& (Int32.ofInt 1))], h, n, 0, 0)) rfl (Nat.zero_le _) (Nat.zero_le _) ?_
      refine ab_Wd_step mt_ok hmi (en := (17, .iconst 1, 1, (0, 0, 0, 0), [])) rfl (F := (18, [(3, .int (nI i)), (2, .int (nI (tp a b i))), (0, .int (nI a)), (1, .int (nI b))], [.int (Int32.ofInt 1), .int (((nI a) >>> ((nI i) &&& 31)) &&& (Int32.ofInt 1))], h, n, 0, 0)) rfl (Nat.zero_le _) (Nat.zero_le _) ?_
      have hi14 : i < 14 := by omega
      have h2i : 2 ^ i ≤ 2 ^ 13 := Nat.pow_le_pow_right (by decide) (by omega)
      have hbi : b * 2 ^ i ≤ (2 ^ 14 - 1) * 2 ^ 13 := Nat.mul_le_mul (by omega) h2i
      have htp := tp_le a b i
      have hd1 : a / 2 ^ i ≤ a := Nat.div_le_self _ _
      rw [cx_shr (a := a) (k := i) (by omega) (by omega), cx_and1 (by omega)]
      have hih := ih (i + 1) (by omega) hlt
      by_cases hbit : a / 2 ^ i % 2 = 1
      · have h1 : ¬ ax_holds .ne (nI (a / 2 ^ i % 2)) (Int32.ofInt 1) := fun q => q (by rw [hbit]; rfl)
        refine cx_if hmi rfl (tg := 27) rfl h1 ?_
        refine ab_Wd_step mt_ok hmi (en := (21, .iload_n 2, 1, (0, 0, 0, 0), [])) rfl (F := (22, [(3, .int (nI i)), (2, .int (nI (tp a b i))), (0, .int (nI a)), (1, .int (nI b))], [.int (nI (tp a b i))], h, n, 0, 0)) rfl (Nat.zero_le _) (Nat.zero_le _) ?_
        refine ab_Wd_step mt_ok hmi (en := (22, .iload_n 1, 1, (0, 0, 0, 0), [])) rfl (F := (23, [(3, .int (nI i)), (2, .int (nI (tp a b i))), (0, .int (nI a)), (1, .int (nI b))], [.int (nI b), .int (nI (tp a b i))], h, n, 0, 0)) rfl (Nat.zero_le _) (Nat.zero_le _) ?_
        refine ab_Wd_step mt_ok hmi (en := (23, .iload_n 3, 1, (0, 0, 0, 0), [])) rfl (F := (24, [(3, .int (nI i)), (2, .int (nI (tp a b i))), (0, .int (nI a)), (1, .int (nI b))], [.int (nI i), .int (nI b), .int (nI (tp a b i))], h, n, 0, 0)) rfl (Nat.zero_le _) (Nat.zero_le _) ?_
        refine ab_Wd_step mt_ok hmi (en := (24, .ishl, 1, (0, 0, 0, 0), [])) rfl (F := (25, [(3, .int (nI i)), (2, .int (nI (tp a b i))), (0, .int (nI a)), (1, .int (nI b))], [.int ((nI b) <<< ((nI i) &&& 31)), .int (nI (tp a b i))], h, n, 0, 0)) rfl (Nat.zero_le _) (Nat.zero_le _) ?_
        refine ab_Wd_step mt_ok hmi (en := (25, .iadd, 1, (0, 0, 0, 0), [])) rfl (F := (26, [(3, .int (nI i)), (2, .int (nI (tp a b i))), (0, .int (nI a)), (1, .int (nI b))], [.int ((nI (tp a b i)) + ((nI b) <<< ((nI i) &&& 31)))], h, n, 0, 0)) rfl (Nat.zero_le _) (Nat.zero_le _) ?_
        refine ab_Wd_step mt_ok hmi (en := (26, .istore_n 2, 1, (0, 0, 0, 0), [])) rfl (F := (27, [(2, .int ((nI (tp a b i)) + ((nI b) <<< ((nI i) &&& 31)))), (3, .int (nI i)), (0, .int (nI a)), (1, .int (nI b))], [], h, n, 0, 0)) rfl (Nat.zero_le _) (Nat.zero_le _) ?_
        refine ab_Wd_step mt_ok hmi (en := (27, .iinc 3 1, 3, (0, 0, 0, 0), [])) rfl (F := (30, [(3, .int ((nI i) + Int32.ofInt 1)), (2, .int ((nI (tp a b i)) + ((nI b) <<< ((nI i) &&& 31)))), (0, .int (nI a)), (1, .int (nI b))], [], h, n, 0, 0)) rfl (Nat.zero_le _) (Nat.zero_le _) ?_
        refine ab_Wd_step mt_ok hmi (en := (30, .goto (-26), 3, (0, 0, 0, 0), [])) rfl (F := (4, [(3, .int ((nI i) + Int32.ofInt 1)), (2, .int ((nI (tp a b i)) + ((nI b) <<< ((nI i) &&& 31)))), (0, .int (nI a)), (1, .int (nI b))], [], h, n, 0, 0)) rfl (Nat.zero_le _) (Nat.zero_le _) ?_
        rw [cx_shl (a := b) (k := i) (by omega) (by omega), nI_add, show nI i + Int32.ofInt 1 = nI (i + 1) from nI_1 i]
        rw [show tp a b (i + 1) = tp a b i + b * 2 ^ i from by show tp a b i + _ = _; rw [if_pos hbit]] at hih
        exact hih
      · have h1 : ax_holds .ne (nI (a / 2 ^ i % 2)) (Int32.ofInt 1) := fun q => hbit ((nI_eq (by omega) (by omega)).mp q)
        refine cx_it hmi rfl (tg := 27) rfl h1 ?_
        refine ab_Wd_step mt_ok hmi (en := (27, .iinc 3 1, 3, (0, 0, 0, 0), [])) rfl (F := (30, [(3, .int ((nI i) + Int32.ofInt 1)), (2, .int (nI (tp a b i))), (0, .int (nI a)), (1, .int (nI b))], [], h, n, 0, 0)) rfl (Nat.zero_le _) (Nat.zero_le _) ?_
        refine ab_Wd_step mt_ok hmi (en := (30, .goto (-26), 3, (0, 0, 0, 0), [])) rfl (F := (4, [(3, .int ((nI i) + Int32.ofInt 1)), (2, .int (nI (tp a b i))), (0, .int (nI a)), (1, .int (nI b))], [], h, n, 0, 0)) rfl (Nat.zero_le _) (Nat.zero_le _) ?_
        rw [show nI i + Int32.ofInt 1 = nI (i + 1) from nI_1 i]
        rw [show tp a b (i + 1) = tp a b i from by show tp a b i + _ = _; rw [if_neg hbit]; rfl] at hih
        exact hih
    · have hc : ax_holds .ge (nI i) (nI (hl 14 a)) := nI_le (by omega) (by omega)
      have he : hl 14 a = i := by omega
      refine cx_it hmi rfl (tg := 33) rfl hc ?_
      refine ab_Wd_step mt_ok hmi (en := (33, .iload_n 2, 1, (0, 0, 0, 0), [])) rfl (F := (34, [(3, .int (nI i)), (2, .int (nI (tp a b i))), (0, .int (nI a)), (1, .int (nI b))], [.int (nI (tp a b i))], h, n, 0, 0)) rfl (Nat.zero_le _) (Nat.zero_le _) ?_
      rw [he]
      exact ab_Wd_ret mt_ok hmi rfl rfl rfl (Nat.zero_le _) (Nat.zero_le _)
theorem pr_ok {l : Launch} {G : ax_T} {d : Nat} {a b : Nat} (ha : a < 2 ^ 14) (hb : b < 2 ^ 14) (h : ax_H) (n : Nat) : ab_M l G (d + 2) mt_X10_product [.int (nI a), .int (nI b)] h n (some (.int (nI (tp a b (hl 14 a)))), h, n) := by
  have hmi : mt_X10_product ∈ mt_prog := List.mem_of_getElem? mi_X10_product
  refine ab_Wd_call mt_ok hmi (Nat.le_of_ble_eq_true rfl) rfl ?_
  show ab_Wd l G mt_X10_product (d + 1) _ (0, [(0, .int (nI a)), (1, .int (nI b))], [], h, n, 0, 0)
  refine ab_Wd_step mt_ok hmi (en := (0, .iconst 0, 1, (0, 0, 0, 0), [])) rfl (F := (1, [(0, .int (nI a)), (1, .int (nI b))], [.int (Int32.ofInt 0)], h, n, 0, 0)) rfl (Nat.zero_le _) (Nat.zero_le _) ?_
  refine ab_Wd_step mt_ok hmi (en := (1, .istore_n 2, 1, (0, 0, 0, 0), [])) rfl (F := (2, [(2, .int (Int32.ofInt 0)), (0, .int (nI a)), (1, .int (nI b))], [], h, n, 0, 0)) rfl (Nat.zero_le _) (Nat.zero_le _) ?_
  refine ab_Wd_step mt_ok hmi (en := (2, .iconst 0, 1, (0, 0, 0, 0), [])) rfl (F := (3, [(2, .int (Int32.ofInt 0)), (0, .int (nI a)), (1, .int (nI b))], [.int (Int32.ofInt 0)], h, n, 0, 0)) rfl (Nat.zero_le _) (Nat.zero_le _) ?_
  refine ab_Wd_step mt_ok hmi (en := (3, .istore_n 3, 1, (0, 0, 0, 0), [])) rfl (F := (4, [(3, .int (Int32.ofInt 0)), (2, .int (Int32.ofInt 0)), (0, .int (nI a)), (1, .int (nI b))], [], h, n, 0, 0)) rfl (Nat.zero_le _) (Nat.zero_le _) ?_
  exact pr_loop ha hb 14 0 rfl (Nat.zero_le _)
end
section
/-! ===== times, in the class (ways printed by wip/safe/path.py) ===== -/
/-- what times answers -/
def tmI (a b : Nat) (w : Int32) : Int32 := if w.toInt = 0 then nI (tp a b (hl 14 a)) else if w.toInt = 1 then nI (hl 14 a) else
  if 10 ≤ w.toInt ∧ w.toInt < 30 then (if (w.toInt - 10).toNat < hl 14 a then nI (a / 2 ^ (w.toInt - 10).toNat) else Int32.ofInt (-1)) else
  if 30 ≤ w.toInt ∧ w.toInt < 50 then (if (w.toInt - 30).toNat < hl 14 a then nI (b * 2 ^ (w.toInt - 30).toNat) else Int32.ofInt (-1)) else Int32.ofInt (-102)
def tmS (a b w : Int32) : Int32 := if (1 ≤ a.toInt ∧ a.toInt ≤ 9999) ∧ 1 ≤ b.toInt ∧ b.toInt ≤ 9999 then tmI a.toInt.toNat b.toInt.toNat w else Int32.ofInt (-102)
theorem cx_sub {m k : Nat} (hk : k ≤ m) : nI m - nI k = nI (m - k) := by
  have h1 : nI (m - k) + nI k = nI m := by rw [nI_add, Nat.sub_add_cancel hk]
  rw [← h1, Int32.add_sub_cancel]
theorem hl14 (a : Nat) : hl 14 a ≤ 14 := Nat.not_lt.mp fun q => by
  have := (hl_lt 14 a 14).mp q
  omega
theorem cx_m102 : (Int8.ofInt (-102)).toInt32 = Int32.ofInt (-102) := ab_i8 (by decide) (by decide)
theorem cx_8i (k : Nat) (hk : k ≤ 127) : ((Int8.ofInt (k : Int)).toInt32).toInt = k := by rw [cx_8 hk, nI_toInt (by omega)]
theorem cx_16i (k : Nat) (hk : k ≤ 32767) : ((Int16.ofInt (k : Int)).toInt32).toInt = k := by rw [cx_16 hk, nI_toInt (by omega)]
theorem tm_in {l : Launch} {G : ax_T} {d : Nat} {a b : Nat} (ha : a < 2 ^ 14) (hb : b < 2 ^ 14) (w : Int32) {k : Nat} {h : ax_H} {n : Nat} : ab_Wd l G mt_X10_times (d + 2) (some (.int (tmI a b w)), h, n) (27, [(0, .ref k), (1, .int (nI a)), (2, .int (nI b)), (3, .int w)], [], h, n, 0, 0) := by
  have hmi : mt_X10_times ∈ mt_prog := List.mem_of_getElem? mi_X10_times
  have z0 : (0 : Int32).toInt = 0 := rfl
  have z1 : (Int32.ofInt 1).toInt = 1 := rfl
  have z10 : ((Int8.ofInt 10).toInt32).toInt = 10 := cx_8i 10 (by decide)
  have z30 : ((Int8.ofInt 30).toInt32).toInt = 30 := cx_8i 30 (by decide)
  have z50 : ((Int8.ofInt 50).toInt32).toInt = 50 := cx_8i 50 (by decide)
  have hL := hl14 a
  refine ab_Wd_step mt_ok hmi (en := (27, .iload_n 3, 1, (0, 0, 0, 0), [])) rfl (F := (28, [(0, .ref k), (1, .int (nI a)), (2, .int (nI b)), (3, .int w)], [.int w], h, n, 0, 0)) rfl (Nat.zero_le _) (Nat.zero_le _) ?_
  by_cases e0 : w.toInt = 0
  · have h0 : ¬ ax_holds .ne w 0 := fun q => q (Int32.toInt_inj.mp (by rw [e0]; rfl))
    rw [show tmI a b w = nI (tp a b (hl 14 a)) from if_pos e0]
    refine cx_zf hmi rfl (tg := 37) rfl h0 ?_
    refine ab_Wd_step mt_ok hmi (en := (31, .iload_n 1, 1, (0, 0, 0, 0), [])) rfl (F := (32, [(0, .ref k), (1, .int (nI a)), (2, .int (nI b)), (3, .int w)], [.int (nI a)], h, n, 0, 0)) rfl (Nat.zero_le _) (Nat.zero_le _) ?_
    refine ab_Wd_step mt_ok hmi (en := (32, .iload_n 2, 1, (0, 0, 0, 0), [])) rfl (F := (33, [(0, .ref k), (1, .int (nI a)), (2, .int (nI b)), (3, .int w)], [.int (nI b), .int (nI a)], h, n, 0, 0)) rfl (Nat.zero_le _) (Nat.zero_le _) ?_
    refine cx_call hmi rfl rfl ⟨rfl, rfl⟩ (pr_ok ha hb h n) ?_
    exact ab_Wd_ret mt_ok hmi rfl rfl rfl (Nat.zero_le _) (Nat.zero_le _)
  · have h0 : ax_holds .ne w 0 := fun q => e0 (by rw [q]; rfl)
    refine cx_zt hmi rfl (tg := 37) rfl h0 ?_
    refine ab_Wd_step mt_ok hmi (en := (37, .iload_n 3, 1, (0, 0, 0, 0), [])) rfl (F := (38, [(0, .ref k), (1, .int (nI a)), (2, .int (nI b)), (3, .int w)], [.int w], h, n, 0, 0)) rfl (Nat.zero_le _) (Nat.zero_le _) ?_
    refine ab_Wd_step mt_ok hmi (en := (38, .iconst 1, 1, (0, 0, 0, 0), [])) rfl (F := (39, [(0, .ref k), (1, .int (nI a)), (2, .int (nI b)), (3, .int w)], [.int (Int32.ofInt 1), .int w], h, n, 0, 0)) rfl (Nat.zero_le _) (Nat.zero_le _) ?_
    by_cases e1 : w.toInt = 1
    · have h1 : ¬ ax_holds .ne w (Int32.ofInt 1) := fun q => q (Int32.toInt_inj.mp (by rw [e1]; rfl))
      rw [show tmI a b w = nI (hl 14 a) from by unfold tmI; rw [if_neg e0, if_pos e1]]
      refine cx_if hmi rfl (tg := 47) rfl h1 ?_
      refine ab_Wd_step mt_ok hmi (en := (42, .iload_n 1, 1, (0, 0, 0, 0), [])) rfl (F := (43, [(0, .ref k), (1, .int (nI a)), (2, .int (nI b)), (3, .int w)], [.int (nI a)], h, n, 0, 0)) rfl (Nat.zero_le _) (Nat.zero_le _) ?_
      refine cx_call hmi rfl rfl ⟨rfl, rfl⟩ (hv_ok (d := d + 1) ha h n) ?_
      exact ab_Wd_ret mt_ok hmi rfl rfl rfl (Nat.zero_le _) (Nat.zero_le _)
    · have h1 : ax_holds .ne w (Int32.ofInt 1) := fun q => e1 (by rw [q]; rfl)
      refine cx_it hmi rfl (tg := 47) rfl h1 ?_
      refine ab_Wd_step mt_ok hmi (en := (47, .iload_n 3, 1, (0, 0, 0, 0), [])) rfl (F := (48, [(0, .ref k), (1, .int (nI a)), (2, .int (nI b)), (3, .int w)], [.int w], h, n, 0, 0)) rfl (Nat.zero_le _) (Nat.zero_le _) ?_
      refine ab_Wd_step mt_ok hmi (en := (48, .bipush 10, 2, (0, 0, 0, 0), [])) rfl (F := (50, [(0, .ref k), (1, .int (nI a)), (2, .int (nI b)), (3, .int w)], [.int (Int8.ofInt 10).toInt32, .int w], h, n, 0, 0)) rfl (Nat.zero_le _) (Nat.zero_le _) ?_
      by_cases e10 : w.toInt < 10
      · have h10 : ax_holds .lt w (Int8.ofInt 10).toInt32 := cx_lt.mpr (by rw [z10]; exact e10)
        have h30 : ax_holds .lt w (Int8.ofInt 30).toInt32 := cx_lt.mpr (by rw [z30]; show w.toInt < 30; omega)
        rw [show tmI a b w = (Int8.ofInt (-102)).toInt32 from by unfold tmI; rw [if_neg e0, if_neg e1, if_neg (by omega), if_neg (by omega), cx_m102]]
        refine cx_it hmi rfl (tg := 83) rfl h10 ?_
        refine ab_Wd_step mt_ok hmi (en := (83, .iload_n 3, 1, (0, 0, 0, 0), [])) rfl (F := (84, [(0, .ref k), (1, .int (nI a)), (2, .int (nI b)), (3, .int w)], [.int w], h, n, 0, 0)) rfl (Nat.zero_le _) (Nat.zero_le _) ?_
        refine ab_Wd_step mt_ok hmi (en := (84, .bipush 30, 2, (0, 0, 0, 0), [])) rfl (F := (86, [(0, .ref k), (1, .int (nI a)), (2, .int (nI b)), (3, .int w)], [.int (Int8.ofInt 30).toInt32, .int w], h, n, 0, 0)) rfl (Nat.zero_le _) (Nat.zero_le _) ?_
        refine cx_it hmi rfl (tg := 119) rfl h30 ?_
        refine ab_Wd_step mt_ok hmi (en := (119, .bipush (-102), 2, (0, 0, 0, 0), [])) rfl (F := (121, [(0, .ref k), (1, .int (nI a)), (2, .int (nI b)), (3, .int w)], [.int (Int8.ofInt (-102)).toInt32], h, n, 0, 0)) rfl (Nat.zero_le _) (Nat.zero_le _) ?_
        exact ab_Wd_ret mt_ok hmi rfl rfl rfl (Nat.zero_le _) (Nat.zero_le _)
      · have h10 : ¬ ax_holds .lt w (Int8.ofInt 10).toInt32 := fun q => e10 (by have := cx_lt.mp q; rw [z10] at this; exact this)
        refine cx_if hmi rfl (tg := 83) rfl h10 ?_
        refine ab_Wd_step mt_ok hmi (en := (53, .iload_n 3, 1, (0, 0, 0, 0), [])) rfl (F := (54, [(0, .ref k), (1, .int (nI a)), (2, .int (nI b)), (3, .int w)], [.int w], h, n, 0, 0)) rfl (Nat.zero_le _) (Nat.zero_le _) ?_
        refine ab_Wd_step mt_ok hmi (en := (54, .bipush 30, 2, (0, 0, 0, 0), [])) rfl (F := (56, [(0, .ref k), (1, .int (nI a)), (2, .int (nI b)), (3, .int w)], [.int (Int8.ofInt 30).toInt32, .int w], h, n, 0, 0)) rfl (Nat.zero_le _) (Nat.zero_le _) ?_
        by_cases e30 : w.toInt < 30
        · have h30 : ¬ ax_holds .ge w (Int8.ofInt 30).toInt32 := fun q => by
            have := cx_le.mp q
            rw [z30] at this
            have this' : (30 : Int) ≤ w.toInt := this
            omega
          obtain ⟨m, hm, hw, hme⟩ := ab_nn (x := w) (by omega)
          refine cx_if hmi rfl (tg := 83) rfl h30 ?_
          refine ab_Wd_step mt_ok hmi (en := (59, .iload_n 3, 1, (0, 0, 0, 0), [])) rfl (F := (60, [(0, .ref k), (1, .int (nI a)), (2, .int (nI b)), (3, .int w)], [.int w], h, n, 0, 0)) rfl (Nat.zero_le _) (Nat.zero_le _) ?_
          refine ab_Wd_step mt_ok hmi (en := (60, .bipush 10, 2, (0, 0, 0, 0), [])) rfl (F := (62, [(0, .ref k), (1, .int (nI a)), (2, .int (nI b)), (3, .int w)], [.int (Int8.ofInt 10).toInt32, .int w], h, n, 0, 0)) rfl (Nat.zero_le _) (Nat.zero_le _) ?_
          refine ab_Wd_step mt_ok hmi (en := (62, .isub, 1, (0, 0, 0, 0), [])) rfl (F := (63, [(0, .ref k), (1, .int (nI a)), (2, .int (nI b)), (3, .int w)], [.int (w - (Int8.ofInt 10).toInt32)], h, n, 0, 0)) rfl (Nat.zero_le _) (Nat.zero_le _) ?_
          refine ab_Wd_step mt_ok hmi (en := (63, .istore 4, 2, (0, 0, 0, 0), [])) rfl (F := (65, [(4, .int (w - (Int8.ofInt 10).toInt32)), (0, .ref k), (1, .int (nI a)), (2, .int (nI b)), (3, .int w)], [], h, n, 0, 0)) rfl (Nat.zero_le _) (Nat.zero_le _) ?_
          refine ab_Wd_step mt_ok hmi (en := (65, .iload 4, 2, (0, 0, 0, 0), [])) rfl (F := (67, [(4, .int (w - (Int8.ofInt 10).toInt32)), (0, .ref k), (1, .int (nI a)), (2, .int (nI b)), (3, .int w)], [.int (w - (Int8.ofInt 10).toInt32)], h, n, 0, 0)) rfl (Nat.zero_le _) (Nat.zero_le _) ?_
          refine ab_Wd_step mt_ok hmi (en := (67, .iload_n 1, 1, (0, 0, 0, 0), [])) rfl (F := (68, [(4, .int (w - (Int8.ofInt 10).toInt32)), (0, .ref k), (1, .int (nI a)), (2, .int (nI b)), (3, .int w)], [.int (nI a), .int (w - (Int8.ofInt 10).toInt32)], h, n, 0, 0)) rfl (Nat.zero_le _) (Nat.zero_le _) ?_
          refine cx_call hmi rfl rfl ⟨rfl, rfl⟩ (hv_ok (d := d + 1) ha h n) ?_
          have hs : w - (Int8.ofInt 10).toInt32 = nI (m - 10) := by rw [hw, show (Int8.ofInt 10).toInt32 = nI 10 from cx_8 (by decide)]; exact cx_sub (by omega)
          rw [hs]
          have hj : (w.toInt - 10).toNat = m - 10 := by omega
          by_cases ec : m - 10 < hl 14 a
          · have hc : ¬ ax_holds .ge (nI (m - 10)) (nI (hl 14 a)) := nI_ge ec (by omega)
            rw [show tmI a b w = nI (a / 2 ^ (m - 10)) from by unfold tmI; rw [if_neg e0, if_neg e1, if_pos (by omega), hj, if_pos ec]]
            refine cx_if hmi rfl (tg := 81) rfl hc ?_
            refine ab_Wd_step mt_ok hmi (en := (74, .iload_n 1, 1, (0, 0, 0, 0), [])) rfl (F := (75, [(4, .int (nI (m - 10))), (0, .ref k), (1, .int (nI a)), (2, .int (nI b)), (3, .int w)], [.int (nI a)], h, n, 0, 0)) rfl (Nat.zero_le _) (Nat.zero_le _) ?_
            refine ab_Wd_step mt_ok hmi (en := (75, .iload 4, 2, (0, 0, 0, 0), [])) rfl (F := (77, [(4, .int (nI (m - 10))), (0, .ref k), (1, .int (nI a)), (2, .int (nI b)), (3, .int w)], [.int (nI (m - 10)), .int (nI a)], h, n, 0, 0)) rfl (Nat.zero_le _) (Nat.zero_le _) ?_
            refine ab_Wd_step mt_ok hmi (en := (77, .ishr, 1, (0, 0, 0, 0), [])) rfl (F := (78, [(4, .int (nI (m - 10))), (0, .ref k), (1, .int (nI a)), (2, .int (nI b)), (3, .int w)], [.int ((nI a) >>> ((nI (m - 10)) &&& 31))], h, n, 0, 0)) rfl (Nat.zero_le _) (Nat.zero_le _) ?_
            refine ab_Wd_step mt_ok hmi (en := (78, .goto 4, 3, (0, 0, 0, 0), [])) rfl (F := (82, [(4, .int (nI (m - 10))), (0, .ref k), (1, .int (nI a)), (2, .int (nI b)), (3, .int w)], [.int ((nI a) >>> ((nI (m - 10)) &&& 31))], h, n, 0, 0)) rfl (Nat.zero_le _) (Nat.zero_le _) ?_
            rw [cx_shr (a := a) (k := m - 10) (by omega) (by omega)]
            exact ab_Wd_ret mt_ok hmi rfl rfl rfl (Nat.zero_le _) (Nat.zero_le _)
          · have hc : ax_holds .ge (nI (m - 10)) (nI (hl 14 a)) := nI_le (by omega) (by omega)
            rw [show tmI a b w = Int32.ofInt (-1) from by unfold tmI; rw [if_neg e0, if_neg e1, if_pos (by omega), hj, if_neg ec]]
            refine cx_it hmi rfl (tg := 81) rfl hc ?_
            refine ab_Wd_step mt_ok hmi (en := (81, .iconst (-1), 1, (0, 0, 0, 0), [])) rfl (F := (82, [(4, .int (nI (m - 10))), (0, .ref k), (1, .int (nI a)), (2, .int (nI b)), (3, .int w)], [.int (Int32.ofInt (-1))], h, n, 0, 0)) rfl (Nat.zero_le _) (Nat.zero_le _) ?_
            exact ab_Wd_ret mt_ok hmi rfl rfl rfl (Nat.zero_le _) (Nat.zero_le _)
        · have h30 : ax_holds .ge w (Int8.ofInt 30).toInt32 := cx_le.mpr (by rw [z30]; show (30 : Int) ≤ _; omega)
          have h30' : ¬ ax_holds .lt w (Int8.ofInt 30).toInt32 := fun q => e30 (by have := cx_lt.mp q; rw [z30] at this; exact this)
          refine cx_it hmi rfl (tg := 83) rfl h30 ?_
          refine ab_Wd_step mt_ok hmi (en := (83, .iload_n 3, 1, (0, 0, 0, 0), [])) rfl (F := (84, [(0, .ref k), (1, .int (nI a)), (2, .int (nI b)), (3, .int w)], [.int w], h, n, 0, 0)) rfl (Nat.zero_le _) (Nat.zero_le _) ?_
          refine ab_Wd_step mt_ok hmi (en := (84, .bipush 30, 2, (0, 0, 0, 0), [])) rfl (F := (86, [(0, .ref k), (1, .int (nI a)), (2, .int (nI b)), (3, .int w)], [.int (Int8.ofInt 30).toInt32, .int w], h, n, 0, 0)) rfl (Nat.zero_le _) (Nat.zero_le _) ?_
          refine cx_if hmi rfl (tg := 119) rfl h30' ?_
          refine ab_Wd_step mt_ok hmi (en := (89, .iload_n 3, 1, (0, 0, 0, 0), [])) rfl (F := (90, [(0, .ref k), (1, .int (nI a)), (2, .int (nI b)), (3, .int w)], [.int w], h, n, 0, 0)) rfl (Nat.zero_le _) (Nat.zero_le _) ?_
          refine ab_Wd_step mt_ok hmi (en := (90, .bipush 50, 2, (0, 0, 0, 0), [])) rfl (F := (92, [(0, .ref k), (1, .int (nI a)), (2, .int (nI b)), (3, .int w)], [.int (Int8.ofInt 50).toInt32, .int w], h, n, 0, 0)) rfl (Nat.zero_le _) (Nat.zero_le _) ?_
          by_cases e50 : w.toInt < 50
          · have h50 : ¬ ax_holds .ge w (Int8.ofInt 50).toInt32 := fun q => by
              have := cx_le.mp q
              rw [z50] at this
              have this' : (50 : Int) ≤ w.toInt := this
              omega
            obtain ⟨m, hm, hw, hme⟩ := ab_nn (x := w) (by omega)
            refine cx_if hmi rfl (tg := 119) rfl h50 ?_
            refine ab_Wd_step mt_ok hmi (en := (95, .iload_n 3, 1, (0, 0, 0, 0), [])) rfl (F := (96, [(0, .ref k), (1, .int (nI a)), (2, .int (nI b)), (3, .int w)], [.int w], h, n, 0, 0)) rfl (Nat.zero_le _) (Nat.zero_le _) ?_
            refine ab_Wd_step mt_ok hmi (en := (96, .bipush 30, 2, (0, 0, 0, 0), [])) rfl (F := (98, [(0, .ref k), (1, .int (nI a)), (2, .int (nI b)), (3, .int w)], [.int (Int8.ofInt 30).toInt32, .int w], h, n, 0, 0)) rfl (Nat.zero_le _) (Nat.zero_le _) ?_
            refine ab_Wd_step mt_ok hmi (en := (98, .isub, 1, (0, 0, 0, 0), [])) rfl (F := (99, [(0, .ref k), (1, .int (nI a)), (2, .int (nI b)), (3, .int w)], [.int (w - (Int8.ofInt 30).toInt32)], h, n, 0, 0)) rfl (Nat.zero_le _) (Nat.zero_le _) ?_
            refine ab_Wd_step mt_ok hmi (en := (99, .istore 4, 2, (0, 0, 0, 0), [])) rfl (F := (101, [(4, .int (w - (Int8.ofInt 30).toInt32)), (0, .ref k), (1, .int (nI a)), (2, .int (nI b)), (3, .int w)], [], h, n, 0, 0)) rfl (Nat.zero_le _) (Nat.zero_le _) ?_
            refine ab_Wd_step mt_ok hmi (en := (101, .iload 4, 2, (0, 0, 0, 0), [])) rfl (F := (103, [(4, .int (w - (Int8.ofInt 30).toInt32)), (0, .ref k), (1, .int (nI a)), (2, .int (nI b)), (3, .int w)], [.int (w - (Int8.ofInt 30).toInt32)], h, n, 0, 0)) rfl (Nat.zero_le _) (Nat.zero_le _) ?_
            refine ab_Wd_step mt_ok hmi (en := (103, .iload_n 1, 1, (0, 0, 0, 0), [])) rfl (F := (104, [(4, .int (w - (Int8.ofInt 30).toInt32)), (0, .ref k), (1, .int (nI a)), (2, .int (nI b)), (3, .int w)], [.int (nI a), .int (w - (Int8.ofInt 30).toInt32)], h, n, 0, 0)) rfl (Nat.zero_le _) (Nat.zero_le _) ?_
            refine cx_call hmi rfl rfl ⟨rfl, rfl⟩ (hv_ok (d := d + 1) ha h n) ?_
            have hs : w - (Int8.ofInt 30).toInt32 = nI (m - 30) := by rw [hw, show (Int8.ofInt 30).toInt32 = nI 30 from cx_8 (by decide)]; exact cx_sub (by omega)
            rw [hs]
            have hj : (w.toInt - 30).toNat = m - 30 := by omega
            by_cases ec : m - 30 < hl 14 a
            · have hc : ¬ ax_holds .ge (nI (m - 30)) (nI (hl 14 a)) := nI_ge ec (by omega)
              rw [show tmI a b w = nI (b * 2 ^ (m - 30)) from by unfold tmI; rw [if_neg e0, if_neg e1, if_neg (by omega), if_pos (by omega), hj, if_pos ec]]
              refine cx_if hmi rfl (tg := 117) rfl hc ?_
              refine ab_Wd_step mt_ok hmi (en := (110, .iload_n 2, 1, (0, 0, 0, 0), [])) rfl (F := (111, [(4, .int (nI (m - 30))), (0, .ref k), (1, .int (nI a)), (2, .int (nI b)), (3, .int w)], [.int (nI b)], h, n, 0, 0)) rfl (Nat.zero_le _) (Nat.zero_le _) ?_
              refine ab_Wd_step mt_ok hmi (en := (111, .iload 4, 2, (0, 0, 0, 0), [])) rfl (F := (113, [(4, .int (nI (m - 30))), (0, .ref k), (1, .int (nI a)), (2, .int (nI b)), (3, .int w)], [.int (nI (m - 30)), .int (nI b)], h, n, 0, 0)) rfl (Nat.zero_le _) (Nat.zero_le _) ?_
              refine ab_Wd_step mt_ok hmi (en := (113, .ishl, 1, (0, 0, 0, 0), [])) rfl (F := (114, [(4, .int (nI (m - 30))), (0, .ref k), (1, .int (nI a)), (2, .int (nI b)), (3, .int w)], [.int ((nI b) <<< ((nI (m - 30)) &&& 31))], h, n, 0, 0)) rfl (Nat.zero_le _) (Nat.zero_le _) ?_
              refine ab_Wd_step mt_ok hmi (en := (114, .goto 4, 3, (0, 0, 0, 0), [])) rfl (F := (118, [(4, .int (nI (m - 30))), (0, .ref k), (1, .int (nI a)), (2, .int (nI b)), (3, .int w)], [.int ((nI b) <<< ((nI (m - 30)) &&& 31))], h, n, 0, 0)) rfl (Nat.zero_le _) (Nat.zero_le _) ?_
              have h2i : 2 ^ (m - 30) ≤ 2 ^ 13 := Nat.pow_le_pow_right (by decide) (by omega)
              have hbi : b * 2 ^ (m - 30) ≤ (2 ^ 14 - 1) * 2 ^ 13 := Nat.mul_le_mul (by omega) h2i
              rw [cx_shl (a := b) (k := m - 30) (by omega) (by omega)]
              exact ab_Wd_ret mt_ok hmi rfl rfl rfl (Nat.zero_le _) (Nat.zero_le _)
            · have hc : ax_holds .ge (nI (m - 30)) (nI (hl 14 a)) := nI_le (by omega) (by omega)
              rw [show tmI a b w = Int32.ofInt (-1) from by unfold tmI; rw [if_neg e0, if_neg e1, if_neg (by omega), if_pos (by omega), hj, if_neg ec]]
              refine cx_it hmi rfl (tg := 117) rfl hc ?_
              refine ab_Wd_step mt_ok hmi (en := (117, .iconst (-1), 1, (0, 0, 0, 0), [])) rfl (F := (118, [(4, .int (nI (m - 30))), (0, .ref k), (1, .int (nI a)), (2, .int (nI b)), (3, .int w)], [.int (Int32.ofInt (-1))], h, n, 0, 0)) rfl (Nat.zero_le _) (Nat.zero_le _) ?_
              exact ab_Wd_ret mt_ok hmi rfl rfl rfl (Nat.zero_le _) (Nat.zero_le _)
          · have h50 : ax_holds .ge w (Int8.ofInt 50).toInt32 := cx_le.mpr (by rw [z50]; show (50 : Int) ≤ _; omega)
            rw [show tmI a b w = (Int8.ofInt (-102)).toInt32 from by unfold tmI; rw [if_neg e0, if_neg e1, if_neg (by omega), if_neg (by omega), cx_m102]]
            refine cx_it hmi rfl (tg := 119) rfl h50 ?_
            refine ab_Wd_step mt_ok hmi (en := (119, .bipush (-102), 2, (0, 0, 0, 0), [])) rfl (F := (121, [(0, .ref k), (1, .int (nI a)), (2, .int (nI b)), (3, .int w)], [.int (Int8.ofInt (-102)).toInt32], h, n, 0, 0)) rfl (Nat.zero_le _) (Nat.zero_le _) ?_
            exact ab_Wd_ret mt_ok hmi rfl rfl rfl (Nat.zero_le _) (Nat.zero_le _)
theorem tm_ok {l : Launch} {G : ax_T} {d : Nat} (a b w : Int32) (k : Nat) (h : ax_H) (n : Nat) : ab_M l G (d + 3) mt_X10_times [.ref k, .int a, .int b, .int w] h n (some (.int (tmS a b w)), h, n) := by
  have hmi : mt_X10_times ∈ mt_prog := List.mem_of_getElem? mi_X10_times
  have z1 : (Int32.ofInt 1).toInt = 1 := rfl
  have z9 : ((Int16.ofInt 9999).toInt32).toInt = 9999 := cx_16i 9999 (by decide)
  refine ab_Wd_call mt_ok hmi (Nat.le_of_ble_eq_true rfl) rfl ?_
  show ab_Wd l G mt_X10_times (d + 2) _ (0, [(0, .ref k), (1, .int a), (2, .int b), (3, .int w)], [], h, n, 0, 0)
  refine ab_Wd_step mt_ok hmi (en := (0, .iload_n 1, 1, (0, 0, 0, 0), [])) rfl (F := (1, [(0, .ref k), (1, .int a), (2, .int b), (3, .int w)], [.int a], h, n, 0, 0)) rfl (Nat.zero_le _) (Nat.zero_le _) ?_
  refine ab_Wd_step mt_ok hmi (en := (1, .iconst 1, 1, (0, 0, 0, 0), [])) rfl (F := (2, [(0, .ref k), (1, .int a), (2, .int b), (3, .int w)], [.int (Int32.ofInt 1), .int a], h, n, 0, 0)) rfl (Nat.zero_le _) (Nat.zero_le _) ?_
  by_cases h1 : ax_holds .lt a (Int32.ofInt 1)
  · have k1 := cx_lt.mp h1
    rw [z1] at k1
    rw [show tmS a b w = (Int8.ofInt (-102)).toInt32 from by unfold tmS; rw [if_neg (by omega), cx_m102]]
    refine cx_it hmi rfl (tg := 24) rfl h1 ?_
    refine ab_Wd_step mt_ok hmi (en := (24, .bipush (-102), 2, (0, 0, 0, 0), [])) rfl (F := (26, [(0, .ref k), (1, .int a), (2, .int b), (3, .int w)], [.int (Int8.ofInt (-102)).toInt32], h, n, 0, 0)) rfl (Nat.zero_le _) (Nat.zero_le _) ?_
    exact ab_Wd_ret mt_ok hmi rfl rfl rfl (Nat.zero_le _) (Nat.zero_le _)
  have k1 : ¬ a.toInt < 1 := fun q => h1 (cx_lt.mpr (by rw [z1]; exact q))
  refine cx_if hmi rfl (tg := 24) rfl h1 ?_
  refine ab_Wd_step mt_ok hmi (en := (5, .iload_n 1, 1, (0, 0, 0, 0), [])) rfl (F := (6, [(0, .ref k), (1, .int a), (2, .int b), (3, .int w)], [.int a], h, n, 0, 0)) rfl (Nat.zero_le _) (Nat.zero_le _) ?_
  refine ab_Wd_step mt_ok hmi (en := (6, .sipush 9999, 3, (0, 0, 0, 0), [])) rfl (F := (9, [(0, .ref k), (1, .int a), (2, .int b), (3, .int w)], [.int (Int16.ofInt 9999).toInt32, .int a], h, n, 0, 0)) rfl (Nat.zero_le _) (Nat.zero_le _) ?_
  by_cases h2 : ax_holds .gt a (Int16.ofInt 9999).toInt32
  · have k2 : _ < a.toInt := cx_lt.mp h2
    rw [z9] at k2
    rw [show tmS a b w = (Int8.ofInt (-102)).toInt32 from by unfold tmS; rw [if_neg (by omega), cx_m102]]
    refine cx_it hmi rfl (tg := 24) rfl h2 ?_
    refine ab_Wd_step mt_ok hmi (en := (24, .bipush (-102), 2, (0, 0, 0, 0), [])) rfl (F := (26, [(0, .ref k), (1, .int a), (2, .int b), (3, .int w)], [.int (Int8.ofInt (-102)).toInt32], h, n, 0, 0)) rfl (Nat.zero_le _) (Nat.zero_le _) ?_
    exact ab_Wd_ret mt_ok hmi rfl rfl rfl (Nat.zero_le _) (Nat.zero_le _)
  have k2 : ¬ 9999 < a.toInt := fun q => h2 (cx_lt.mpr (by rw [z9]; exact q))
  refine cx_if hmi rfl (tg := 24) rfl h2 ?_
  refine ab_Wd_step mt_ok hmi (en := (12, .iload_n 2, 1, (0, 0, 0, 0), [])) rfl (F := (13, [(0, .ref k), (1, .int a), (2, .int b), (3, .int w)], [.int b], h, n, 0, 0)) rfl (Nat.zero_le _) (Nat.zero_le _) ?_
  refine ab_Wd_step mt_ok hmi (en := (13, .iconst 1, 1, (0, 0, 0, 0), [])) rfl (F := (14, [(0, .ref k), (1, .int a), (2, .int b), (3, .int w)], [.int (Int32.ofInt 1), .int b], h, n, 0, 0)) rfl (Nat.zero_le _) (Nat.zero_le _) ?_
  by_cases h3 : ax_holds .lt b (Int32.ofInt 1)
  · have k3 := cx_lt.mp h3
    rw [z1] at k3
    rw [show tmS a b w = (Int8.ofInt (-102)).toInt32 from by unfold tmS; rw [if_neg (by omega), cx_m102]]
    refine cx_it hmi rfl (tg := 24) rfl h3 ?_
    refine ab_Wd_step mt_ok hmi (en := (24, .bipush (-102), 2, (0, 0, 0, 0), [])) rfl (F := (26, [(0, .ref k), (1, .int a), (2, .int b), (3, .int w)], [.int (Int8.ofInt (-102)).toInt32], h, n, 0, 0)) rfl (Nat.zero_le _) (Nat.zero_le _) ?_
    exact ab_Wd_ret mt_ok hmi rfl rfl rfl (Nat.zero_le _) (Nat.zero_le _)
  have k3 : ¬ b.toInt < 1 := fun q => h3 (cx_lt.mpr (by rw [z1]; exact q))
  refine cx_if hmi rfl (tg := 24) rfl h3 ?_
  refine ab_Wd_step mt_ok hmi (en := (17, .iload_n 2, 1, (0, 0, 0, 0), [])) rfl (F := (18, [(0, .ref k), (1, .int a), (2, .int b), (3, .int w)], [.int b], h, n, 0, 0)) rfl (Nat.zero_le _) (Nat.zero_le _) ?_
  refine ab_Wd_step mt_ok hmi (en := (18, .sipush 9999, 3, (0, 0, 0, 0), [])) rfl (F := (21, [(0, .ref k), (1, .int a), (2, .int b), (3, .int w)], [.int (Int16.ofInt 9999).toInt32, .int b], h, n, 0, 0)) rfl (Nat.zero_le _) (Nat.zero_le _) ?_
  by_cases h4 : ax_holds .le b (Int16.ofInt 9999).toInt32
  · have k4 := cx_le.mp h4
    rw [z9] at k4
    rw [show tmS a b w = tmI a.toInt.toNat b.toInt.toNat w from if_pos (by omega)]
    obtain ⟨A, hA, rfl, eA⟩ := ab_nn (x := a) (by omega)
    obtain ⟨B, hB, rfl, eB⟩ := ab_nn (x := b) (by omega)
    rw [show (nI A).toInt.toNat = A by omega, show (nI B).toInt.toNat = B by omega]
    refine cx_it hmi rfl (tg := 27) rfl h4 ?_
    exact tm_in (by omega) (by omega) w
  · have k4 : ¬ b.toInt ≤ 9999 := fun q => h4 (cx_le.mpr (by rw [z9]; exact q))
    rw [show tmS a b w = (Int8.ofInt (-102)).toInt32 from by unfold tmS; rw [if_neg (by omega), cx_m102]]
    refine cx_if hmi rfl (tg := 27) rfl h4 ?_
    refine ab_Wd_step mt_ok hmi (en := (24, .bipush (-102), 2, (0, 0, 0, 0), [])) rfl (F := (26, [(0, .ref k), (1, .int a), (2, .int b), (3, .int w)], [.int (Int8.ofInt (-102)).toInt32], h, n, 0, 0)) rfl (Nat.zero_le _) (Nat.zero_le _) ?_
    exact ab_Wd_ret mt_ok hmi rfl rfl rfl (Nat.zero_le _) (Nat.zero_le _)
end
