/-! ===== operations on ints, over bounds: bits, quotients ===== -/
theorem ab_nn {x : Int32} (h : 0 ≤ x.toInt) : ∃ m : Nat, m < 2 ^ 31 ∧ x = nI m ∧ x.toInt = (m : Int) := by
  have h2 := x.toInt_lt
  refine ⟨x.toInt.toNat, by omega, ?_, by omega⟩
  apply Int32.toInt_inj.mp
  rw [nI_toInt (by omega)]
  omega
theorem ab_andN {m : Nat} (hm : m < 2 ^ 31) (y : Int32) : nI m &&& y = nI (m &&& y.toBitVec.toNat) := by
  apply Int32.toBitVec_inj.mp
  apply BitVec.eq_of_toNat_eq
  rw [Int32.toBitVec_and, BitVec.toNat_and, pk_tn (by omega), pk_tn]
  exact Nat.lt_of_le_of_lt Nat.and_le_left (by omega)
theorem ab_orN {a b : Nat} (ha : a < 2 ^ 31) (hb : b < 2 ^ 31) : nI a ||| nI b = nI (a ||| b) := by
  apply Int32.toBitVec_inj.mp
  apply BitVec.eq_of_toNat_eq
  rw [Int32.toBitVec_or, BitVec.toNat_or, pk_tn (by omega), pk_tn (by omega), pk_tn]
  exact Nat.lt_trans (Nat.or_lt_two_pow ha hb) (by decide)
theorem ab_or_le : ∀ (a b : Nat), a ||| b ≤ a + b := by
  intro a
  induction a using Nat.strongRecOn with
  | _ a ih =>
    intro b
    rcases Nat.eq_zero_or_pos a with rfl | ha
    · simp
    · have h1 := ih (a / 2) (by omega) (b / 2)
      have h2 : (a ||| b) / 2 = a / 2 ||| b / 2 := Nat.or_div_two
      have h3 : (a ||| b) % 2 ≤ a % 2 + b % 2 := by
        have := @Nat.or_mod_two_eq_one a b
        omega
      omega
theorem ab_s31 : ∀ c : Nat, c < 32 → ((nI c &&& 31).toBitVec.smod 32).toNat = c := by decide +kernel
section BIT
variable {n : Nat} {V : List Value} {Γ : List ab_Y} {C : List (Nat × Nat × Int)} {a b : ab_V} {x y : Int32} {p q : Int × Int} {fa : Nat}
def ab_and (b : ab_V) (fa : Nat) (p q : Int × Int) : ab_R := bif decide (0 ≤ p.1) then (bif decide (0 ≤ q.1) then (bif decide (b = .inl 15) && Nat.beq fa 2 then ab_mk 0 13 0 [] else ab_mk 0 (min p.2 q.2) 0 []) else ab_mk 0 p.2 0 [])
  else bif decide (0 ≤ q.1) then ab_mk 0 q.2 0 [] else .inr (ab_top, [])
theorem ab_and_r {y : Int32} {m : Nat} (hm : m < 2 ^ 31) : (nI m &&& y).toInt = ((m &&& y.toBitVec.toNat : Nat) : Int) := by
  rw [ab_andN hm, nI_toInt (Nat.lt_of_le_of_lt Nat.and_le_left hm)]
theorem ab_and_c (x y : Int32) : x &&& y = y &&& x := by
  apply Int32.toBitVec_inj.mp
  rw [Int32.toBitVec_and, Int32.toBitVec_and, BitVec.and_comm]
theorem ab_and_ok (hb : ab_cv V b = some (.int y)) (hf : ab_fl fa x.toInt) (hp : p.1 ≤ x.toInt ∧ x.toInt ≤ p.2) (hq : q.1 ≤ y.toInt ∧ y.toInt ≤ q.2) : ab_den n V (ab_and b fa p q) (.int (x &&& y)) := by
  have hl : 0 ≤ x.toInt → 0 ≤ (x &&& y).toInt ∧ (x &&& y).toInt ≤ x.toInt := by
    intro h0
    obtain ⟨m, hm, rfl, he⟩ := ab_nn h0
    rw [ab_and_r hm, he]
    exact ⟨Int.natCast_nonneg _, Int.ofNat_le.mpr Nat.and_le_left⟩
  have hr : 0 ≤ y.toInt → 0 ≤ (x &&& y).toInt ∧ (x &&& y).toInt ≤ y.toInt := by
    intro h0
    rw [ab_and_c]
    obtain ⟨m, hm, rfl, he⟩ := ab_nn h0
    rw [ab_and_r hm, he]
    exact ⟨Int.natCast_nonneg _, Int.ofNat_le.mpr Nat.and_le_left⟩
  unfold ab_and
  cases e1 : decide (0 ≤ p.1) with
  | true =>
    have h1 := of_decide_eq_true e1
    have h1' := hl (by omega)
    simp only [cond_true]
    cases e2 : decide (0 ≤ q.1) with
    | true =>
      have h2 := of_decide_eq_true e2
      have h2' := hr (by omega)
      simp only [cond_true]
      cases e3 : (decide (b = .inl 15) && Nat.beq fa 2) with
      | true =>
        simp only [Bool.and_eq_true, decide_eq_true_eq, Nat.beq_eq] at e3
        obtain ⟨rfl, rfl⟩ := e3
        simp only [cond_true]
        refine ab_mk_ok fun _ _ => ⟨h1'.1, ?_, trivial, ab_no⟩
        have hy : y = nI 15 := by cases hb; rfl
        have hf' := hf (by omega)
        obtain ⟨m, hm, rfl, he⟩ := ab_nn (show 0 ≤ x.toInt by omega)
        subst hy
        rw [ab_and_r hm, show (nI 15).toBitVec.toNat = 2 ^ 4 - 1 by decide, Nat.and_two_pow_sub_one_eq_mod]
        rw [he] at hf'
        omega
      | false =>
        simp only [cond_false]
        exact ab_mk_ok fun _ _ => ⟨h1'.1, by omega, trivial, ab_no⟩
    | false =>
      simp only [cond_false]
      exact ab_mk_ok fun _ _ => ⟨h1'.1, by omega, trivial, ab_no⟩
  | false =>
    simp only [cond_false]
    cases e2 : decide (0 ≤ q.1) with
    | true =>
      have h2 := of_decide_eq_true e2
      have h2' := hr (by omega)
      simp only [cond_true]
      exact ab_mk_ok fun _ _ => ⟨h2'.1, by omega, trivial, ab_no⟩
    | false => exact ⟨ab_top_ok n _, ab_no⟩
def ab_or (p q : Int × Int) : ab_R := bif decide (0 ≤ p.1) && decide (0 ≤ q.1) then ab_mk (max p.1 q.1) (p.2 + q.2) (bif decide (q.1 = q.2) && (decide (q.1 % 4096 = 0) && decide (p.2 ≤ 3583)) then 1 else 0) [] else .inr (ab_top, [])
theorem ab_or_ok (hp : p.1 ≤ x.toInt ∧ x.toInt ≤ p.2) (hq : q.1 ≤ y.toInt ∧ y.toInt ≤ q.2) : ab_den n V (ab_or p q) (.int (x ||| y)) := by
  unfold ab_or
  cases e1 : (decide (0 ≤ p.1) && decide (0 ≤ q.1)) with
  | false => exact ⟨ab_top_ok n _, ab_no⟩
  | true =>
    simp only [Bool.and_eq_true, decide_eq_true_eq] at e1
    obtain ⟨m, hm, rfl, hme⟩ := ab_nn (show 0 ≤ x.toInt by omega)
    obtain ⟨k, hk, rfl, hke⟩ := ab_nn (show 0 ≤ y.toInt by omega)
    simp only [cond_true]
    refine ab_mk_ok fun _ _ => ?_
    rw [ab_orN hm hk, nI_toInt (Nat.or_lt_two_pow hm hk)]
    have h1 := ab_or_le m k
    have h2 := @Nat.left_le_or m k
    have h3 := @Nat.right_le_or m k
    refine ⟨by omega, by omega, ?_, ab_no⟩
    cases e2 : (decide (q.1 = q.2) && (decide (q.1 % 4096 = 0) && decide (p.2 ≤ 3583))) with
    | false => exact trivial
    | true =>
      simp only [Bool.and_eq_true, decide_eq_true_eq] at e2
      intro _
      have h4 : k = 2 ^ 12 * (k / 4096) := by omega
      have h5 : m ||| k = k + m := by
        rw [Nat.or_comm, h4, ← Nat.two_pow_add_eq_or_of_lt (show m < 2 ^ 12 by omega)]
      rw [h5]
      omega
def ab_pw (c : Int) : Int := ((2 ^ c.toNat : Nat) : Int)
def ab_shl (a : ab_V) (p q : Int × Int) : ab_R := bif decide (0 ≤ q.1) && decide (q.2 ≤ 30) then (bif decide (q.1 = q.2) && decide (0 ≤ p.1) then ab_mk (p.1 * ab_pw q.1) (p.2 * ab_pw q.1) 0 [] else bif decide (a = .inl 1) then ab_mk 1 (ab_pw q.2) 0 [] else .inr (ab_top, [])) else .inr (ab_top, [])
theorem ab_shl_ok (ha : ab_cv V a = some (.int x)) (hp : p.1 ≤ x.toInt ∧ x.toInt ≤ p.2) (hq : q.1 ≤ y.toInt ∧ y.toInt ≤ q.2) : ab_den n V (ab_shl a p q) (.int (x <<< (y &&& 31))) := by
  unfold ab_shl
  cases e1 : (decide (0 ≤ q.1) && decide (q.2 ≤ 30)) with
  | false => exact ⟨ab_top_ok n _, ab_no⟩
  | true =>
    simp only [Bool.and_eq_true, decide_eq_true_eq] at e1
    obtain ⟨k, hk, rfl, hke⟩ := ab_nn (show 0 ≤ y.toInt by omega)
    simp only [cond_true]
    cases e2 : (decide (q.1 = q.2) && decide (0 ≤ p.1)) with
    | true =>
      simp only [Bool.and_eq_true, decide_eq_true_eq] at e2
      obtain ⟨m, hm, rfl, hme⟩ := ab_nn (show 0 ≤ x.toInt by omega)
      simp only [cond_true]
      have hk1 : q.1 = (k : Int) := by omega
      have hpw : ab_pw q.1 = ((2 ^ k : Nat) : Int) := by rw [hk1]; rfl
      refine ab_mk_ok fun r1 r2 => ?_
      rw [ab_rng_iff] at r1 r2
      rw [hpw] at r1 r2 ⊢
      have h0 : (0 : Int) ≤ ((2 ^ k : Nat) : Int) := Int.natCast_nonneg _
      have h1 : p.1 * ((2 ^ k : Nat) : Int) ≤ (m : Int) * ((2 ^ k : Nat) : Int) := Int.mul_le_mul_of_nonneg_right (by omega) h0
      have h2 : (m : Int) * ((2 ^ k : Nat) : Int) ≤ p.2 * ((2 ^ k : Nat) : Int) := Int.mul_le_mul_of_nonneg_right (by omega) h0
      have h3 : ((m * 2 ^ k : Nat) : Int) = (m : Int) * ((2 ^ k : Nat) : Int) := Int.natCast_mul _ _
      rw [pk_shlN (nI k &&& 31) k (ab_s31 k (by omega)) (by omega), nI_toInt (by omega), h3]
      exact ⟨h1, h2, trivial, ab_no⟩
    | false =>
      simp only [cond_false]
      cases e3 : decide (a = .inl 1) with
      | false => exact ⟨ab_top_ok n _, ab_no⟩
      | true =>
        have := of_decide_eq_true e3
        subst this
        have hx : x = nI 1 := by cases ha; rfl
        subst hx
        simp only [cond_true]
        refine ab_mk_ok fun r1 r2 => ?_
        have hk30 : k ≤ 30 := by omega
        have h1 : 2 ^ k ≤ 2 ^ 30 := Nat.pow_le_pow_right (by decide) hk30
        rw [pk_shlN (nI k &&& 31) k (ab_s31 k (by omega)) (by omega), Nat.one_mul, nI_toInt (by omega)]
        have h2 : 2 ^ k ≤ 2 ^ q.2.toNat := Nat.pow_le_pow_right (by decide) (by omega)
        have h3 := Nat.two_pow_pos k
        exact ⟨by omega, Int.ofNat_le.mpr h2, trivial, ab_no⟩
def ab_shr (t : Nat) (a : ab_V) (fa : Nat) (p q : Int × Int) : ab_R := bif decide (q.1 = q.2) && (decide (0 ≤ q.1) && decide (q.1 ≤ 31)) then ab_mk (p.1 / ab_pw q.1) (p.2 / ab_pw q.1) (bif Nat.beq fa 1 && (decide (q.1 = 8) && decide (0 ≤ p.1)) then 2 else 0) (bif decide (1 ≤ p.1) && decide (1 ≤ q.1) then ab_d1 t a (-1) else [])
  else bif decide (0 ≤ p.1) then ab_mk 0 p.2 0 [] else .inr (ab_top, [])
theorem ab_shr_ok (ha : ab_cv V a = some (.int x)) (hf : ab_fl fa x.toInt) (hp : p.1 ≤ x.toInt ∧ x.toInt ≤ p.2) (hq : q.1 ≤ y.toInt ∧ y.toInt ≤ q.2) : ab_den n V (ab_shr V.length a fa p q) (.int (x >>> (y &&& 31))) := by
  unfold ab_shr
  cases e1 : (decide (q.1 = q.2) && (decide (0 ≤ q.1) && decide (q.1 ≤ 31))) with
  | true =>
    simp only [Bool.and_eq_true, decide_eq_true_eq] at e1
    obtain ⟨k, hk, rfl, hke⟩ := ab_nn (show 0 ≤ y.toInt by omega)
    have hk1 : q.1 = (k : Int) := by omega
    have hpw : ab_pw q.1 = ((2 ^ k : Nat) : Int) := by rw [hk1]; rfl
    simp only [cond_true]
    refine ab_mk_ok fun r1 r2 => ?_
    have hz : (x >>> (nI k &&& 31)).toInt = x.toInt / ((2 ^ k : Nat) : Int) := by
      rw [pk_shr x (nI k &&& 31) k (ab_s31 k (by omega)), Int.shiftRight_eq_div_pow]
    rw [hpw]
    have hpos : (0 : Int) < ((2 ^ k : Nat) : Int) := Int.natCast_pos.mpr (Nat.two_pow_pos k)
    refine ⟨?_, ?_, ?_, ?_⟩
    · rw [hz]; exact Int.ediv_le_ediv hpos hp.1
    · rw [hz]; exact Int.ediv_le_ediv hpos hp.2
    · cases e2 : (Nat.beq fa 1 && (decide (q.1 = 8) && decide (0 ≤ p.1))) with
      | false => exact trivial
      | true =>
        simp only [Bool.and_eq_true, decide_eq_true_eq, Nat.beq_eq] at e2
        obtain ⟨rfl, h8, h0⟩ := e2
        intro _
        have hk8 : k = 8 := by omega
        subst hk8
        rw [hz]
        exact hf (by omega)
    · cases e2 : (decide (1 ≤ p.1) && decide (1 ≤ q.1)) with
      | false => exact ab_no
      | true =>
        simp only [Bool.and_eq_true, decide_eq_true_eq] at e2
        refine ab_d1_ok ha ?_
        rw [hz]
        have h2 : (2 : Int) ≤ ((2 ^ k : Nat) : Int) := by
          have : 2 ^ 1 ≤ 2 ^ k := Nat.pow_le_pow_right (by decide) (by omega)
          omega
        have h3 : x.toInt / ((2 ^ k : Nat) : Int) < x.toInt := Int.ediv_lt_self_of_pos_of_ne_one (by omega) (by omega)
        omega
  | false =>
    simp only [cond_false]
    cases e2 : decide (0 ≤ p.1) with
    | false => exact ⟨ab_top_ok n _, ab_no⟩
    | true =>
      have h0 := of_decide_eq_true e2
      simp only [cond_true]
      refine ab_mk_ok fun r1 r2 => ?_
      rw [pk_shr x (y &&& 31) _ rfl, Int.shiftRight_eq_div_pow]
      have h1 : 0 ≤ x.toInt := by omega
      have h2 : x.toInt / ((2 ^ ((y &&& 31).toBitVec.smod 32).toNat : Nat) : Int) ≤ x.toInt := Int.ediv_le_self _ h1
      exact ⟨Int.ediv_nonneg h1 (Int.natCast_nonneg _), by omega, trivial, ab_no⟩
def ab_div (t : Nat) (a : ab_V) (p q : Int × Int) : Option ab_R := bif decide (1 ≤ q.1) then some (bif decide (0 ≤ p.1) then ab_mk (bif decide (q.1 = q.2) then p.1 / q.1 else 0) (p.2 / q.1) 0 (bif decide (1 ≤ p.1) && decide (2 ≤ q.1) then ab_d1 t a (-1) else []) else .inr (ab_top, [])) else none
theorem ab_div_e {x y : Int32} (h0 : 0 ≤ x.toInt) (h1 : 1 ≤ y.toInt) : (x / y).toInt = x.toInt / y.toInt := by
  rw [Int32.toInt_div_of_ne_right x y (fun h => by rw [h] at h1; exact absurd h1 (by decide)), Int.tdiv_eq_ediv_of_nonneg h0]
theorem ab_div_ok {r : ab_R} (ha : ab_cv V a = some (.int x)) (hp : p.1 ≤ x.toInt ∧ x.toInt ≤ p.2) (hq : q.1 ≤ y.toInt ∧ y.toInt ≤ q.2) (h : ab_div V.length a p q = some r) : y ≠ 0 ∧ ab_den n V r (.int (x / y)) := by
  unfold ab_div at h
  cases e1 : decide (1 ≤ q.1) with
  | false => rw [e1] at h; cases h
  | true =>
    rw [e1] at h
    obtain rfl := Option.some.inj h
    have h1 := of_decide_eq_true e1
    refine ⟨fun h => by rw [h] at hq; have : (0 : Int32).toInt = 0 := rfl; omega, ?_⟩
    cases e2 : decide (0 ≤ p.1) with
    | false => exact ⟨ab_top_ok n _, ab_no⟩
    | true =>
      have h2 := of_decide_eq_true e2
      simp only [cond_true]
      refine ab_mk_ok fun r1 r2 => ?_
      have hz := ab_div_e (x := x) (y := y) (by omega) (by omega)
      rw [hz]
      refine ⟨?_, ?_, trivial, ?_⟩
      · cases e3 : decide (q.1 = q.2) with
        | true =>
          have h3 := of_decide_eq_true e3
          have h4 : y.toInt = q.1 := by omega
          simp only [cond_true]
          rw [h4]
          exact Int.ediv_le_ediv (by omega) hp.1
        | false => exact Int.ediv_nonneg (by omega) (by omega)
      · have h4 : x.toInt / y.toInt ≤ x.toInt / q.1 := by
          have hy0 : 0 < y.toInt := by omega
          have hq0 : 0 < q.1 := by omega
          rw [Int.le_ediv_iff_mul_le hq0]
          have h5 : x.toInt / y.toInt * q.1 ≤ x.toInt / y.toInt * y.toInt := Int.mul_le_mul_of_nonneg_left hq.1 (Int.ediv_nonneg (by omega) (by omega))
          have h6 := Int.ediv_mul_le x.toInt (show y.toInt ≠ 0 by omega)
          omega
        have h5 : x.toInt / q.1 ≤ p.2 / q.1 := Int.ediv_le_ediv (by omega) hp.2
        omega
      · cases e3 : (decide (1 ≤ p.1) && decide (2 ≤ q.1)) with
        | false => exact ab_no
        | true =>
          simp only [Bool.and_eq_true, decide_eq_true_eq] at e3
          refine ab_d1_ok ha ?_
          rw [hz]
          have h3 : x.toInt / y.toInt < x.toInt := Int.ediv_lt_self_of_pos_of_ne_one (by omega) (by omega)
          omega
def ab_rem (t : Nat) (b : ab_V) (p q : Int × Int) : Option ab_R := bif decide (1 ≤ q.1) then some (bif decide (0 ≤ p.1) then (bif decide (q.1 = q.2) && decide (p.1 / q.1 = p.2 / q.1) then ab_mk (p.1 % q.1) (p.2 % q.1) 0 [] else ab_mk 0 (min p.2 (q.2 - 1)) 0 (ab_d1 t b (-1))) else ab_mk (-(q.2 - 1)) (q.2 - 1) 0 []) else none
theorem ab_emod_le {a b : Int} (h : 0 ≤ a) (hb : 0 < b) : a % b ≤ a := by
  have h1 := Int.mul_ediv_add_emod a b
  have h2 := Int.mul_nonneg (Int.le_of_lt hb) (Int.ediv_nonneg h (Int.le_of_lt hb))
  omega
theorem ab_rem_e {x y : Int32} (h1 : 1 ≤ y.toInt) : (x - x / y * y).toInt = x.toInt.tmod y.toInt := by
  have hd : (x / y).toInt = x.toInt.tdiv y.toInt := Int32.toInt_div_of_ne_right x y (fun h => by rw [h] at h1; exact absurd h1 (by decide))
  have he := Int.mul_tdiv_add_tmod x.toInt y.toInt
  have hx1 := x.le_toInt
  have hx2 := x.toInt_lt
  have hb : (x / y * y).toInt = y.toInt * x.toInt.tdiv y.toInt := by
    have hm : (x.toInt.tmod y.toInt).natAbs ≤ x.toInt.natAbs := by
      rcases Int.le_total 0 x.toInt with h | h
      · have h2 := Int.tmod_nonneg y.toInt h
        have h3 : x.toInt.tmod y.toInt ≤ x.toInt := by
          rw [Int.tmod_eq_emod_of_nonneg h]
          exact ab_emod_le h (by omega)
        omega
      · have e := Int.neg_tmod (-x.toInt) y.toInt
        rw [Int.neg_neg] at e
        have h2 := Int.tmod_nonneg y.toInt (show 0 ≤ -x.toInt by omega)
        have h3 : (-x.toInt).tmod y.toInt ≤ -x.toInt := by
          rw [Int.tmod_eq_emod_of_nonneg (by omega)]
          exact ab_emod_le (by omega) (by omega)
        omega
    have hs : 0 ≤ x.toInt → 0 ≤ x.toInt.tmod y.toInt := Int.tmod_nonneg y.toInt
    have hs2 : x.toInt ≤ 0 → x.toInt.tmod y.toInt ≤ 0 := by
      intro h
      have e := Int.neg_tmod (-x.toInt) y.toInt
      rw [Int.neg_neg] at e
      have h2 := Int.tmod_nonneg y.toInt (show 0 ≤ -x.toInt by omega)
      omega
    rw [Int32.toInt_mul, hd, Int.mul_comm, ab_bm (by omega) (by omega)]
  have hr : x.toInt - y.toInt * x.toInt.tdiv y.toInt = x.toInt.tmod y.toInt := by omega
  have hlt : (x.toInt.tmod y.toInt).natAbs < y.toInt.natAbs := by
    rw [Int.natAbs_tmod]
    exact Nat.mod_lt _ (by omega)
  have hy2 := y.toInt_lt
  rw [Int32.toInt_sub, hb, hr, ab_bm (by omega) (by omega)]
theorem ab_rem_ok {r : ab_R} (hb : ab_cv V b = some (.int y)) (hp : p.1 ≤ x.toInt ∧ x.toInt ≤ p.2) (hq : q.1 ≤ y.toInt ∧ y.toInt ≤ q.2) (h : ab_rem V.length b p q = some r) : y ≠ 0 ∧ ab_den n V r (.int (x - x / y * y)) := by
  unfold ab_rem at h
  cases e1 : decide (1 ≤ q.1) with
  | false => rw [e1] at h; cases h
  | true =>
    rw [e1] at h
    obtain rfl := Option.some.inj h
    have h1 := of_decide_eq_true e1
    refine ⟨fun h => by rw [h] at hq; have : (0 : Int32).toInt = 0 := rfl; omega, ?_⟩
    have hz := ab_rem_e (x := x) (y := y) (by omega)
    cases e2 : decide (0 ≤ p.1) with
    | true =>
      have h2 := of_decide_eq_true e2
      have hx0 : 0 ≤ x.toInt := by omega
      rw [Int.tmod_eq_emod_of_nonneg hx0] at hz
      have m1 := Int.emod_nonneg x.toInt (show y.toInt ≠ 0 by omega)
      have m2 := Int.emod_lt_of_pos x.toInt (show 0 < y.toInt by omega)
      have m3 := ab_emod_le (b := y.toInt) hx0 (by omega)
      simp only [cond_true]
      cases e3 : (decide (q.1 = q.2) && decide (p.1 / q.1 = p.2 / q.1)) with
      | true =>
        simp only [Bool.and_eq_true, decide_eq_true_eq] at e3
        have hyq : y.toInt = q.1 := by omega
        simp only [cond_true]
        refine ab_mk_ok fun r1 r2 => ?_
        rw [hz, hyq]
        have d1 : p.1 / q.1 ≤ x.toInt / q.1 := Int.ediv_le_ediv (by omega) hp.1
        have d2 : x.toInt / q.1 ≤ p.2 / q.1 := Int.ediv_le_ediv (by omega) hp.2
        have d3 : x.toInt / q.1 = p.1 / q.1 := by omega
        have e4 := Int.mul_ediv_add_emod x.toInt q.1
        have e5 := Int.mul_ediv_add_emod p.1 q.1
        have e6 := Int.mul_ediv_add_emod p.2 q.1
        rw [d3] at e4
        rw [← e3.2] at e6
        exact ⟨by omega, by omega, trivial, ab_no⟩
      | false =>
        simp only [cond_false]
        refine ab_mk_ok fun r1 r2 => ?_
        rw [hz]
        refine ⟨m1, by omega, trivial, ab_d1_ok hb ?_⟩
        rw [hz]; omega
    | false =>
      simp only [cond_false]
      refine ab_mk_ok fun r1 r2 => ?_
      rw [hz]
      have hlt : (x.toInt.tmod y.toInt).natAbs < y.toInt.natAbs := by
        rw [Int.natAbs_tmod]
        exact Nat.mod_lt _ (by omega)
      exact ⟨by omega, by omega, trivial, ab_no⟩
def ab_i2b (a : ab_V) (p : Int × Int) : ab_R := bif decide (-128 ≤ p.1) && decide (p.2 ≤ 127) then .inl a else ab_mk (-128) 127 0 []
theorem ab_i2b_ok (ha : ab_cv V a = some (.int x)) (hp : p.1 ≤ x.toInt ∧ x.toInt ≤ p.2) : ab_den n V (ab_i2b a p) (.int x.toInt8.toInt32) := by
  unfold ab_i2b
  cases e1 : (decide (-128 ≤ p.1) && decide (p.2 ≤ 127)) with
  | true =>
    simp only [Bool.and_eq_true, decide_eq_true_eq] at e1
    show ab_cv V a = _
    rw [ha]
    congr 2
    apply Int32.toInt_inj.mp
    rw [Int8.toInt_toInt32, Int32.toInt_toInt8]
    exact (Int.bmod_eq_of_le (by omega) (by omega)).symm
  | false =>
    simp only [cond_false]
    refine ab_mk_ok fun r1 r2 => ?_
    rw [Int8.toInt_toInt32]
    have h1 := x.toInt8.le_toInt
    have h2 := x.toInt8.toInt_lt
    exact ⟨by omega, by omega, trivial, ab_no⟩
end BIT
