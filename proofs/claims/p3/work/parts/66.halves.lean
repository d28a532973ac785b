/-! ===== times, in the class: halves and doubles (ways printed by wip/safe/path.py) ===== -/
def hl : Nat → Nat → Nat
  | 0, _ => 0
  | f + 1, x => if x = 0 then 0 else hl f (x / 2) + 1
theorem cx_shr {a k : Nat} (ha : a < 2 ^ 31) (hk : k < 32) : nI a >>> (nI k &&& 31) = nI (a / 2 ^ k) := by
  apply Int32.toInt_inj.mp
  have h1 : a / 2 ^ k ≤ a := Nat.div_le_self _ _
  rw [pk_shr (nI a) (nI k &&& 31) k (ab_s31 k hk), Int.shiftRight_eq_div_pow, nI_toInt ha, nI_toInt (by omega)]
  rfl
theorem cx_and1 {a : Nat} (ha : a < 2 ^ 31) : nI a &&& Int32.ofInt 1 = nI (a % 2) := by
  rw [ab_andN ha]
  congr 1
  exact Nat.and_one_is_mod a
theorem cx_shl {a k : Nat} (hk : k < 32) (hb : a * 2 ^ k < 2 ^ 31) : nI a <<< (nI k &&& 31) = nI (a * 2 ^ k) := pk_shlN (nI k &&& 31) k (ab_s31 k hk) (by omega)
theorem cx_of (k : Nat) : Int32.ofInt (k : Int) = nI k := rfl
theorem cx_8 {k : Nat} (hk : k ≤ 127) : (Int8.ofInt (k : Int)).toInt32 = nI k := ab_i8 (by omega) (by omega)
theorem cx_16 {k : Nat} (hk : k ≤ 32767) : (Int16.ofInt (k : Int)).toInt32 = nI k := ab_i16 (by omega) (by omega)
theorem hl_lt : ∀ (f x k : Nat), k < hl f x ↔ k < f ∧ 0 < x / 2 ^ k
  | 0, x, k => by simp [hl]
  | f + 1, x, k => by
    by_cases hx : x = 0
    · subst hx
      simp [hl]
    · rw [show hl (f + 1) x = hl f (x / 2) + 1 from if_neg hx]
      cases k with
      | zero =>
        simp only [Nat.pow_zero, Nat.div_one]
        omega
      | succ k =>
        have ih := hl_lt f (x / 2) k
        rw [Nat.pow_succ, Nat.mul_comm, ← Nat.div_div_eq_div_mul]
        omega
theorem hv_loop {l : Launch} {G : ax_T} {d : Nat} {a : Int32} {h : ax_H} {n : Nat} : ∀ (f x c : Nat), x < 2 ^ f → f ≤ 30 → ab_Wd l G mt_X10_halvings d (some (.int (nI (c + hl f x))), h, n) (4, [(2, .int (nI x)), (1, .int (nI c)), (0, .int a)], [], h, n, 0, 0) := by
  have hmi : mt_X10_halvings ∈ mt_prog := List.mem_of_getElem? mi_X10_halvings
  intro f
  induction f with
  | zero =>
    intro x c h1 _
    have hx0 : x = 0 := by omega
    have hx : ax_holds .le (nI x) 0 := by
      show nI x ≤ 0
      rw [hx0]
      decide
    refine ab_Wd_step mt_ok hmi (en := (4, .iload_n 2, 1, (0, 0, 0, 0), [])) rfl (F := (5, [(2, .int (nI x)), (1, .int (nI c)), (0, .int a)], [.int (nI x)], h, n, 0, 0)) rfl (Nat.zero_le _) (Nat.zero_le _) ?_
    refine cx_zt hmi rfl (tg := 18) rfl hx ?_
    refine ab_Wd_step mt_ok hmi (en := (18, .iload_n 1, 1, (0, 0, 0, 0), [])) rfl (F := (19, [(2, .int (nI x)), (1, .int (nI c)), (0, .int a)], [.int (nI c)], h, n, 0, 0)) rfl (Nat.zero_le _) (Nat.zero_le _) ?_
    exact ab_Wd_ret mt_ok hmi rfl rfl rfl (Nat.zero_le _) (Nat.zero_le _)
  | succ f ih =>
    intro x c h1 hf
    have hp : 2 ^ (f + 1) ≤ 2 ^ 30 := Nat.pow_le_pow_right (by decide) hf
    refine ab_Wd_step mt_ok hmi (en := (4, .iload_n 2, 1, (0, 0, 0, 0), [])) rfl (F := (5, [(2, .int (nI x)), (1, .int (nI c)), (0, .int a)], [.int (nI x)], h, n, 0, 0)) rfl (Nat.zero_le _) (Nat.zero_le _) ?_
    by_cases hx0 : x = 0
    · have hx : ax_holds .le (nI x) 0 := by
        show nI x ≤ 0
        rw [hx0]
        decide
      rw [show hl (f + 1) x = 0 from if_pos hx0]
      refine cx_zt hmi rfl (tg := 18) rfl hx ?_
      refine ab_Wd_step mt_ok hmi (en := (18, .iload_n 1, 1, (0, 0, 0, 0), [])) rfl (F := (19, [(2, .int (nI x)), (1, .int (nI c)), (0, .int a)], [.int (nI c)], h, n, 0, 0)) rfl (Nat.zero_le _) (Nat.zero_le _) ?_
      exact ab_Wd_ret mt_ok hmi rfl rfl rfl (Nat.zero_le _) (Nat.zero_le _)
    · have hx : ¬ ax_holds .le (nI x) 0 := nI_nle (by omega) (by omega)
      refine cx_zf hmi rfl (tg := 18) rfl hx ?_
      refine ab_Wd_step mt_ok hmi (en := (8, .iinc 1 1, 3, (0, 0, 0, 0), [])) rfl (F := (11, [(1, .int ((nI c) + Int32.ofInt 1)), (2, .int (nI x)), (0, .int a)], [], h, n, 0, 0)) rfl (Nat.zero_le _) (Nat.zero_le _) ?_
      refine ab_Wd_step mt_ok hmi (en := (11, .iload_n 2, 1, (0, 0, 0, 0), [])) rfl (F := (12, [(1, .int ((nI c) + Int32.ofInt 1)), (2, .int (nI x)), (0, .int a)], [.int (nI x)], h, n, 0, 0)) rfl (Nat.zero_le _) (Nat.zero_le _) ?_
      refine ab_Wd_step mt_ok hmi (en := (12, .iconst 1, 1, (0, 0, 0, 0), [])) rfl (F := (13, [(1, .int ((nI c) + Int32.ofInt 1)), (2, .int (nI x)), (0, .int a)], [.int (Int32.ofInt 1), .int (nI x)], h, n, 0, 0)) rfl (Nat.zero_le _) (Nat.zero_le _) ?_
      refine ab_Wd_step mt_ok hmi (en := (13, .ishr, 1, (0, 0, 0, 0), [])) rfl (F := (14, [(1, .int ((nI c) + Int32.ofInt 1)), (2, .int (nI x)), (0, .int a)], [.int ((nI x) >>> ((Int32.ofInt 1) &&& 31))], h, n, 0, 0)) rfl (Nat.zero_le _) (Nat.zero_le _) ?_
      refine ab_Wd_step mt_ok hmi (en := (14, .istore_n 2, 1, (0, 0, 0, 0), [])) rfl (F := (15, [(2, .int ((nI x) >>> ((Int32.ofInt 1) &&& 31))), (1, .int ((nI c) + Int32.ofInt 1)), (0, .int a)], [], h, n, 0, 0)) rfl (Nat.zero_le _) (Nat.zero_le _) ?_
      refine ab_Wd_step mt_ok hmi (en := (15, .goto (-11), 3, (0, 0, 0, 0), [])) rfl (F := (4, [(2, .int ((nI x) >>> ((Int32.ofInt 1) &&& 31))), (1, .int ((nI c) + Int32.ofInt 1)), (0, .int a)], [], h, n, 0, 0)) rfl (Nat.zero_le _) (Nat.zero_le _) ?_
      have hi := ih (x / 2) (c + 1) (by omega) (by omega)
      rw [show nI x >>> (Int32.ofInt 1 &&& 31) = nI (x / 2) from cx_shr (k := 1) (by omega) (by decide), show nI c + Int32.ofInt 1 = nI (c + 1) from nI_1 c]
      rw [show c + hl (f + 1) x = c + 1 + hl f (x / 2) from by rw [show hl (f + 1) x = hl f (x / 2) + 1 from if_neg hx0]; omega]
      exact hi
theorem hv_ok {l : Launch} {G : ax_T} {d : Nat} {x : Nat} (hx : x < 2 ^ 14) (h : ax_H) (n : Nat) : ab_M l G (d + 1) mt_X10_halvings [.int (nI x)] h n (some (.int (nI (hl 14 x))), h, n) := by
  have hmi : mt_X10_halvings ∈ mt_prog := List.mem_of_getElem? mi_X10_halvings
  refine ab_Wd_call mt_ok hmi (Nat.le_of_ble_eq_true rfl) rfl ?_
  show ab_Wd l G mt_X10_halvings d _ (0, [(0, .int (nI x))], [], h, n, 0, 0)
  refine ab_Wd_step mt_ok hmi (en := (0, .iconst 0, 1, (0, 0, 0, 0), [])) rfl (F := (1, [(0, .int (nI x))], [.int (Int32.ofInt 0)], h, n, 0, 0)) rfl (Nat.zero_le _) (Nat.zero_le _) ?_
  refine ab_Wd_step mt_ok hmi (en := (1, .istore_n 1, 1, (0, 0, 0, 0), [])) rfl (F := (2, [(1, .int (Int32.ofInt 0)), (0, .int (nI x))], [], h, n, 0, 0)) rfl (Nat.zero_le _) (Nat.zero_le _) ?_
  refine ab_Wd_step mt_ok hmi (en := (2, .iload_n 0, 1, (0, 0, 0, 0), [])) rfl (F := (3, [(1, .int (Int32.ofInt 0)), (0, .int (nI x))], [.int (nI x)], h, n, 0, 0)) rfl (Nat.zero_le _) (Nat.zero_le _) ?_
  refine ab_Wd_step mt_ok hmi (en := (3, .istore_n 2, 1, (0, 0, 0, 0), [])) rfl (F := (4, [(2, .int (nI x)), (1, .int (Int32.ofInt 0)), (0, .int (nI x))], [], h, n, 0, 0)) rfl (Nat.zero_le _) (Nat.zero_le _) ?_
  have := hv_loop (l := l) (G := G) (d := d) (a := nI x) (h := h) (n := n) 14 x 0 hx (by decide)
  rw [Nat.zero_add] at this
  exact this
/-- what is summed up of the first lines -/
def tp (a b : Nat) : Nat → Nat
  | 0 => 0
  | k + 1 => tp a b k + (if a / 2 ^ k % 2 = 1 then b * 2 ^ k else 0)
theorem tp_le (a b : Nat) : ∀ k : Nat, tp a b k + b ≤ b * 2 ^ k
  | 0 => by simp [tp]
  | k + 1 => by
    have ih := tp_le a b k
    have : b * 2 ^ (k + 1) = b * 2 ^ k + b * 2 ^ k := by rw [Nat.pow_succ, ← Nat.mul_assoc]; omega
    unfold tp
    split <;> omega
theorem pr_loop {l : Launch} {G : ax_T} {d : Nat} {a b : Nat} (ha : a < 2 ^ 14) (hb : b < 2 ^ 14) {h : ax_H} {n : Nat} : ∀ (f i : Nat), i + f = 14 → i ≤ hl 14 a → ab_Wd l G mt_X10_product (d + 1) (some (.int (nI (tp a b (hl 14 a)))), h, n) (4, [(3, .int (nI i)), (2, .int (nI (tp a b i))), (0, .int (nI a)), (1, .int (nI b))], [], h, n, 0, 0) := by
  have hmi : mt_X10_product ∈ mt_prog := List.mem_of_getElem? mi_X10_product
  have h14 : hl 14 a ≤ 14 := by
    refine Nat.not_lt.mp fun q => ?_
    have := (hl_lt 14 a 14).mp q
    omega
  intro f
  induction f with
  | zero =>
    intro i hi hil
    have hc : ax_holds .ge (nI i) (nI (hl 14 a)) := nI_le (by omega) (by omega)
    have he : hl 14 a = i := by omega
    refine ab_Wd_step mt_ok hmi (en := (4, .iload_n 3, 1, (0, 0, 0, 0), [])) rfl (F := (5, [(3, .int (nI i)), (2, .int (nI (tp a b i))), (0, .int (nI a)), (1, .int (nI b))], [.int (nI i)], h, n, 0, 0)) rfl (Nat.zero_le _) (Nat.zero_le _) ?_
    refine ab_Wd_step mt_ok hmi (en := (5, .iload_n 0, 1, (0, 0, 0, 0), [])) rfl (F := (6, [(3, .int (nI i)), (2, .int (nI (tp a b i))), (0, .int (nI a)), (1, .int (nI b))], [.int (nI a), .int (nI i)], h, n, 0, 0)) rfl (Nat.zero_le _) (Nat.zero_le _) ?_
    refine cx_call hmi rfl rfl ⟨rfl, rfl⟩ (hv_ok ha h n) ?_
    refine cx_it hmi rfl (tg := 33) rfl hc ?_
    refine ab_Wd_step mt_ok hmi (en := (33, .iload_n 2, 1, (0, 0, 0, 0), [])) rfl (F := (34, [(3, .int (nI i)), (2, .int (nI (tp a b i))), (0, .int (nI a)), (1, .int (nI b))], [.int (nI (tp a b i))], h, n, 0, 0)) rfl (Nat.zero_le _) (Nat.zero_le _) ?_
    rw [he]
    exact ab_Wd_ret mt_ok hmi rfl rfl rfl (Nat.zero_le _) (Nat.zero_le _)
  | succ f ih =>
    intro i hi hil
    refine ab_Wd_step mt_ok hmi (en := (4, .iload_n 3, 1, (0, 0, 0, 0), [])) rfl (F := (5, [(3, .int (nI i)), (2, .int (nI (tp a b i))), (0, .int (nI a)), (1, .int (nI b))], [.int (nI i)], h, n, 0, 0)) rfl (Nat.zero_le _) (Nat.zero_le _) ?_
    refine ab_Wd_step mt_ok hmi (en := (5, .iload_n 0, 1, (0, 0, 0, 0), [])) rfl (F := (6, [(3, .int (nI i)), (2, .int (nI (tp a b i))), (0, .int (nI a)), (1, .int (nI b))], [.int (nI a), .int (nI i)], h, n, 0, 0)) rfl (Nat.zero_le _) (Nat.zero_le _) ?_
    refine cx_call hmi rfl rfl ⟨rfl, rfl⟩ (hv_ok ha h n) ?_
    by_cases hlt : i < hl 14 a
    · have hc : ¬ ax_holds .ge (nI i) (nI (hl 14 a)) := nI_ge hlt (by omega)
      refine cx_if hmi rfl (tg := 33) rfl hc ?_
      refine ab_Wd_step mt_ok hmi (en := (12, .iload_n 0, 1, (0, 0, 0, 0), [])) rfl (F := (13, [(3, .int (nI i)), (2, .int (nI (tp a b i))), (0, .int (nI a)), (1, .int (nI b))], [.int (nI a)], h, n, 0, 0)) rfl (Nat.zero_le _) (Nat.zero_le _) ?_
      refine ab_Wd_step mt_ok hmi (en := (13, .iload_n 3, 1, (0, 0, 0, 0), [])) rfl (F := (14, [(3, .int (nI i)), (2, .int (nI (tp a b i))), (0, .int (nI a)), (1, .int (nI b))], [.int (nI i), .int (nI a)], h, n, 0, 0)) rfl (Nat.zero_le _) (Nat.zero_le _) ?_
      refine ab_Wd_step mt_ok hmi (en := (14, .ishr, 1, (0, 0, 0, 0), [])) rfl (F := (15, [(3, .int (nI i)), (2, .int (nI (tp a b i))), (0, .int (nI a)), (1, .int (nI b))], [.int ((nI a) >>> ((nI i) &&& 31))], h, n, 0, 0)) rfl (Nat.zero_le _) (Nat.zero_le _) ?_
      refine ab_Wd_step mt_ok hmi (en := (15, .iconst 1, 1, (0, 0, 0, 0), [])) rfl (F := (16, [(3, .int (nI i)), (2, .int (nI (tp a b i))), (0, .int (nI a)), (1, .int (nI b))], [.int (Int32.ofInt 1), .int ((nI a) >>> ((nI i) &&& 31))], h, n, 0, 0)) rfl (Nat.zero_le _) (Nat.zero_le _) ?_
      refine ab_Wd_step mt_ok hmi (en := (16, .iand, 1, (0, 0, 0, 0), [])) rfl (F := (17, [(3, .int (nI i)), (2, .int (nI (tp a b i))), (0, .int (nI a)), (1, .int (nI b))], [.int (((nI a) >>> ((nI i) &&& 31)) &&& (Int32.ofInt 1))], h, n, 0, 0)) rfl (Nat.zero_le _) (Nat.zero_le _) ?_
      refine ab_Wd_step mt_ok hmi (en := (17, .iconst 1, 1, (0, 0, 0, 0), [])) rfl (F := (18, [(3, .int (nI i)), (2, .int (nI (tp a b i))), (0, .int (nI a)), (1, .int (nI b))], [.int (Int32.ofInt 1), .int (((nI a) >>> ((nI i) &&& 31)) &&& (Int32.ofInt 1))], h, n, 0, 0)) rfl (Nat.zero_le _) (Nat.zero_le _) ?_
      have hi14 : i < 14 := by omega
      have h2i : 2 ^ i ≤ 2 ^ 13 := Nat.pow_le_pow_right (by decide) (by omega)
      have hbi : b * 2 ^ i ≤ (2 ^ 14 - 1) * 2 ^ 13 := Nat.mul_le_mul (by omega) h2i
      have htp := tp_le a b i
      have hd1 : a / 2 ^ i ≤ a := Nat.div_le_self _ _
      rw [cx_shr (a := a) (k := i) (by omega) (by omega), cx_and1 (by omega)]
      have hih := ih (i + 1) (by omega) hlt
      by_cases hbit : a / 2 ^ i % 2 = 1
      · have h1 : ¬ ax_holds .ne (nI (a / 2 ^ i % 2)) (Int32.ofInt 1) := fun q => q (by rw [hbit]; rfl)
        refine cx_if hmi rfl (tg := 27) rfl h1 ?_
        refine ab_Wd_step mt_ok hmi (en := (21, .iload_n 2, 1, (0, 0, 0, 0), [])) rfl (F := (22, [(3, .int (nI i)), (2, .int (nI (tp a b i))), (0, .int (nI a)), (1, .int (nI b))], [.int (nI (tp a b i))], h, n, 0, 0)) rfl (Nat.zero_le _) (Nat.zero_le _) ?_
        refine ab_Wd_step mt_ok hmi (en := (22, .iload_n 1, 1, (0, 0, 0, 0), [])) rfl (F := (23, [(3, .int (nI i)), (2, .int (nI (tp a b i))), (0, .int (nI a)), (1, .int (nI b))], [.int (nI b), .int (nI (tp a b i))], h, n, 0, 0)) rfl (Nat.zero_le _) (Nat.zero_le _) ?_
        refine ab_Wd_step mt_ok hmi (en := (23, .iload_n 3, 1, (0, 0, 0, 0), [])) rfl (F := (24, [(3, .int (nI i)), (2, .int (nI (tp a b i))), (0, .int (nI a)), (1, .int (nI b))], [.int (nI i), .int (nI b), .int (nI (tp a b i))], h, n, 0, 0)) rfl (Nat.zero_le _) (Nat.zero_le _) ?_
        refine ab_Wd_step mt_ok hmi (en := (24, .ishl, 1, (0, 0, 0, 0), [])) rfl (F := (25, [(3, .int (nI i)), (2, .int (nI (tp a b i))), (0, .int (nI a)), (1, .int (nI b))], [.int ((nI b) <<< ((nI i) &&& 31)), .int (nI (tp a b i))], h, n, 0, 0)) rfl (Nat.zero_le _) (Nat.zero_le _) ?_
        refine ab_Wd_step mt_ok hmi (en := (25, .iadd, 1, (0, 0, 0, 0), [])) rfl (F := (26, [(3, .int (nI i)), (2, .int (nI (tp a b i))), (0, .int (nI a)), (1, .int (nI b))], [.int ((nI (tp a b i)) + ((nI b) <<< ((nI i) &&& 31)))], h, n, 0, 0)) rfl (Nat.zero_le _) (Nat.zero_le _) ?_
        refine ab_Wd_step mt_ok hmi (en := (26, .istore_n 2, 1, (0, 0, 0, 0), [])) rfl (F := (27, [(2, .int ((nI (tp a b i)) + ((nI b) <<< ((nI i) &&& 31)))), (3, .int (nI i)), (0, .int (nI a)), (1, .int (nI b))], [], h, n, 0, 0)) rfl (Nat.zero_le _) (Nat.zero_le _) ?_
        refine ab_Wd_step mt_ok hmi (en := (27, .iinc 3 1, 3, (0, 0, 0, 0), [])) rfl (F := (30, [(3, .int ((nI i) + Int32.ofInt 1)), (2, .int ((nI (tp a b i)) + ((nI b) <<< ((nI i) &&& 31)))), (0, .int (nI a)), (1, .int (nI b))], [], h, n, 0, 0)) rfl (Nat.zero_le _) (Nat.zero_le _) ?_
        refine ab_Wd_step mt_ok hmi (en := (30, .goto (-26), 3, (0, 0, 0, 0), [])) rfl (F := (4, [(3, .int ((nI i) + Int32.ofInt 1)), (2, .int ((nI (tp a b i)) + ((nI b) <<< ((nI i) &&& 31)))), (0, .int (nI a)), (1, .int (nI b))], [], h, n, 0, 0)) rfl (Nat.zero_le _) (Nat.zero_le _) ?_
        rw [cx_shl (a := b) (k := i) (by omega) (by omega), nI_add, show nI i + Int32.ofInt 1 = nI (i + 1) from nI_1 i]
        rw [show tp a b (i + 1) = tp a b i + b * 2 ^ i from by show tp a b i + _ = _; rw [if_pos hbit]] at hih
        exact hih
      · have h1 : ax_holds .ne (nI (a / 2 ^ i % 2)) (Int32.ofInt 1) := fun q => hbit ((nI_eq (by omega) (by omega)).mp q)
        refine cx_it hmi rfl (tg := 27) rfl h1 ?_
        refine ab_Wd_step mt_ok hmi (en := (27, .iinc 3 1, 3, (0, 0, 0, 0), [])) rfl (F := (30, [(3, .int ((nI i) + Int32.ofInt 1)), (2, .int (nI (tp a b i))), (0, .int (nI a)), (1, .int (nI b))], [], h, n, 0, 0)) rfl (Nat.zero_le _) (Nat.zero_le _) ?_
        refine ab_Wd_step mt_ok hmi (en := (30, .goto (-26), 3, (0, 0, 0, 0), [])) rfl (F := (4, [(3, .int ((nI i) + Int32.ofInt 1)), (2, .int (nI (tp a b i))), (0, .int (nI a)), (1, .int (nI b))], [], h, n, 0, 0)) rfl (Nat.zero_le _) (Nat.zero_le _) ?_
        rw [show nI i + Int32.ofInt 1 = nI (i + 1) from nI_1 i]
        rw [show tp a b (i + 1) = tp a b i from by show tp a b i + _ = _; rw [if_neg hbit]; rfl] at hih
        exact hih
    · have hc : ax_holds .ge (nI i) (nI (hl 14 a)) := nI_le (by omega) (by omega)
      have he : hl 14 a = i := by omega
      refine cx_it hmi rfl (tg := 33) rfl hc ?_
      refine ab_Wd_step mt_ok hmi (en := (33, .iload_n 2, 1, (0, 0, 0, 0), [])) rfl (F := (34, [(3, .int (nI i)), (2, .int (nI (tp a b i))), (0, .int (nI a)), (1, .int (nI b))], [.int (nI (tp a b i))], h, n, 0, 0)) rfl (Nat.zero_le _) (Nat.zero_le _) ?_
      rw [he]
      exact ab_Wd_ret mt_ok hmi rfl rfl rfl (Nat.zero_le _) (Nat.zero_le _)
theorem pr_ok {l : Launch} {G : ax_T} {d : Nat} {a b : Nat} (ha : a < 2 ^ 14) (hb : b < 2 ^ 14) (h : ax_H) (n : Nat) : ab_M l G (d + 2) mt_X10_product [.int (nI a), .int (nI b)] h n (some (.int (nI (tp a b (hl 14 a)))), h, n) := by
  have hmi : mt_X10_product ∈ mt_prog := List.mem_of_getElem? mi_X10_product
  refine ab_Wd_call mt_ok hmi (Nat.le_of_ble_eq_true rfl) rfl ?_
  show ab_Wd l G mt_X10_product (d + 1) _ (0, [(0, .int (nI a)), (1, .int (nI b))], [], h, n, 0, 0)
  refine ab_Wd_step mt_ok hmi (en := (0, .iconst 0, 1, (0, 0, 0, 0), [])) rfl (F := (1, [(0, .int (nI a)), (1, .int (nI b))], [.int (Int32.ofInt 0)], h, n, 0, 0)) rfl (Nat.zero_le _) (Nat.zero_le _) ?_
  refine ab_Wd_step mt_ok hmi (en := (1, .istore_n 2, 1, (0, 0, 0, 0), [])) rfl (F := (2, [(2, .int (Int32.ofInt 0)), (0, .int (nI a)), (1, .int (nI b))], [], h, n, 0, 0)) rfl (Nat.zero_le _) (Nat.zero_le _) ?_
  refine ab_Wd_step mt_ok hmi (en := (2, .iconst 0, 1, (0, 0, 0, 0), [])) rfl (F := (3, [(2, .int (Int32.ofInt 0)), (0, .int (nI a)), (1, .int (nI b))], [.int (Int32.ofInt 0)], h, n, 0, 0)) rfl (Nat.zero_le _) (Nat.zero_le _) ?_
  refine ab_Wd_step mt_ok hmi (en := (3, .istore_n 3, 1, (0, 0, 0, 0), [])) rfl (F := (4, [(3, .int (Int32.ofInt 0)), (2, .int (Int32.ofInt 0)), (0, .int (nI a)), (1, .int (nI b))], [], h, n, 0, 0)) rfl (Nat.zero_le _) (Nat.zero_le _) ?_
  exact pr_loop ha hb 14 0 rfl (Nat.zero_le _)
