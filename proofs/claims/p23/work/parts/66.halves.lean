/-! ===== how often a number is halved ===== -/
def hl : Nat → Nat → Nat
  | 0, _ => 0
  | f + 1, x => if x = 0 then 0 else hl f (x / 2) + 1
/-- a number's bits -/
def hb (x : Nat) : Nat := hl 31 x
theorem cx_shr (x : Int32) {k : Nat} (hk : k < 32) : (x >>> (nI k &&& 31)).toInt = x.toInt / ((2 ^ k : Nat) : Int) := by
  rw [pk_shr x (nI k &&& 31) k (ab_s31 k hk), Int.shiftRight_eq_div_pow]
theorem cx_nI (k : Nat) : Int32.ofInt (k : Int) = nI k := rfl
theorem hv_loop {l : Launch} {G : ax_T} {d : Nat} {a : Int32} {h : ax_H} {n : Nat} : ∀ (f : Nat) (x c : Int32), 0 ≤ x.toInt → x.toInt < 2 ^ f → ab_Wd l G mt_X10_halvings d (some (.int (c + nI (hl f x.toInt.toNat))), h, n) (4, [(2, .int x), (1, .int c), (0, .int a)], [], h, n, 0, 0) := by
  have hmi : mt_X10_halvings ∈ mt_prog := List.mem_of_getElem? mi_X10_halvings
  intro f
  induction f with
  | zero =>
    intro x c h0 h1
    have hx : ax_holds .le x 0 := by
      show x ≤ 0
      rw [cx_le]
      show x.toInt ≤ 0
      omega
    rw [show hl 0 x.toInt.toNat = 0 from rfl, show c + nI 0 = c from Int32.add_zero c]
    refine ab_Wd_step mt_ok hmi (en := (4, .iload_n 2, 1, (0, 0, 0, 0), [])) rfl (F := (5, [(2, .int x), (1, .int c), (0, .int a)], [.int x], h, n, 0, 0)) rfl (Nat.zero_le _) (Nat.zero_le _) ?_
    refine cx_zt hmi rfl (tg := 18) rfl hx ?_
    refine ab_Wd_step mt_ok hmi (en := (18, .iload_n 1, 1, (0, 0, 0, 0), [])) rfl (F := (19, [(2, .int x), (1, .int c), (0, .int a)], [.int c], h, n, 0, 0)) rfl (Nat.zero_le _) (Nat.zero_le _) ?_
    exact ab_Wd_ret mt_ok hmi rfl rfl rfl (Nat.zero_le _) (Nat.zero_le _)

  | succ f ih =>
    intro x c h0 h1
    refine ab_Wd_step mt_ok hmi (en := (4, .iload_n 2, 1, (0, 0, 0, 0), [])) rfl (F := (5, [(2, .int x), (1, .int c), (0, .int a)], [.int x], h, n, 0, 0)) rfl (Nat.zero_le _) (Nat.zero_le _) ?_
    by_cases hx : ax_holds .le x 0
    · have hz : x.toInt ≤ 0 := cx_le.mp hx
      rw [show hl (f + 1) x.toInt.toNat = 0 from by rw [show x.toInt.toNat = 0 by omega]; rfl, show c + nI 0 = c from Int32.add_zero c]
      refine cx_zt hmi rfl (tg := 18) rfl hx ?_
      refine ab_Wd_step mt_ok hmi (en := (18, .iload_n 1, 1, (0, 0, 0, 0), [])) rfl (F := (19, [(2, .int x), (1, .int c), (0, .int a)], [.int c], h, n, 0, 0)) rfl (Nat.zero_le _) (Nat.zero_le _) ?_
      exact ab_Wd_ret mt_ok hmi rfl rfl rfl (Nat.zero_le _) (Nat.zero_le _)
    · have hz : ¬ x.toInt ≤ 0 := fun q => hx (cx_le.mpr q)
      refine cx_zf hmi rfl (tg := 18) rfl hx ?_
      refine ab_Wd_step mt_ok hmi (en := (8, .iinc 1 1, 3, (0, 0, 0, 0), [])) rfl (F := (11, [(1, .int (c + Int32.ofInt 1)), (2, .int x), (0, .int a)], [], h, n, 0, 0)) rfl (Nat.zero_le _) (Nat.zero_le _) ?_
      refine ab_Wd_step mt_ok hmi (en := (11, .iload_n 2, 1, (0, 0, 0, 0), [])) rfl (F := (12, [(1, .int (c + Int32.ofInt 1)), (2, .int x), (0, .int a)], [.int x], h, n, 0, 0)) rfl (Nat.zero_le _) (Nat.zero_le _) ?_
      refine ab_Wd_step mt_ok hmi (en := (12, .iconst 1, 1, (0, 0, 0, 0), [])) rfl (F := (13, [(1, .int (c + Int32.ofInt 1)), (2, .int x), (0, .int a)], [.int (Int32.ofInt 1), .int x], h, n, 0, 0)) rfl (Nat.zero_le _) (Nat.zero_le _) ?_
      refine ab_Wd_step mt_ok hmi (en := (13, .ishr, 1, (0, 0, 0, 0), [])) rfl (F := (14, [(1, .int (c + Int32.ofInt 1)), (2, .int x), (0, .int a)], [.int (x >>> ((Int32.ofInt 1) &&& 31))], h, n, 0, 0)) rfl (Nat.zero_le _) (Nat.zero_le _) ?_
      refine ab_Wd_step mt_ok hmi (en := (14, .istore_n 2, 1, (0, 0, 0, 0), [])) rfl (F := (15, [(2, .int (x >>> ((Int32.ofInt 1) &&& 31))), (1, .int (c + Int32.ofInt 1)), (0, .int a)], [], h, n, 0, 0)) rfl (Nat.zero_le _) (Nat.zero_le _) ?_
      refine ab_Wd_step mt_ok hmi (en := (15, .goto (-11), 3, (0, 0, 0, 0), [])) rfl (F := (4, [(2, .int (x >>> ((Int32.ofInt 1) &&& 31))), (1, .int (c + Int32.ofInt 1)), (0, .int a)], [], h, n, 0, 0)) rfl (Nat.zero_le _) (Nat.zero_le _) ?_
      have hs : (x >>> (Int32.ofInt 1 &&& 31)).toInt = x.toInt / 2 := cx_shr x (k := 1) (by decide)
      have hp : (2 : Int) ^ (f + 1) = 2 * 2 ^ f := by rw [Int.pow_succ, Int.mul_comm]
      have := ih (x >>> (Int32.ofInt 1 &&& 31)) (c + Int32.ofInt 1) (by omega) (by omega)
      have he : c + Int32.ofInt 1 + nI (hl f (x >>> (Int32.ofInt 1 &&& 31)).toInt.toNat) = c + nI (hl (f + 1) x.toInt.toNat) := by
        rw [hs, show (x.toInt / 2).toNat = x.toInt.toNat / 2 by omega]
        have hne : ¬ x.toInt.toNat = 0 := by omega
        rw [show hl (f + 1) x.toInt.toNat = hl f (x.toInt.toNat / 2) + 1 from if_neg hne]
        rw [Int32.add_assoc]
        congr 1
        show nI 1 + nI _ = nI (_ + 1)
        rw [Nat.add_comm]
        sorry
      rw [he] at this
      exact this
