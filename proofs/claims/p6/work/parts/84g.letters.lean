/-! ===== letters of class and reference (ways printed by wip/v2/mk84g.py; the bytes begun from claims/p1, 25 to 27) ===== -/
/-- the i-th byte, as the class takes it -/
def lt_c (w : Int64) (i : Nat) : Int32 := (w.toUInt64 >>> ((Int32.ofInt 8 * nI i).toInt64.toUInt64 &&& Int64.toUInt64 63)).toInt64.toInt32 &&& 255
theorem lt_b8 : ∀ j, j < 8 → (255#64).getLsbD j = (255#32).getLsbD j := by decide
theorem lt_b9 {j : Nat} (h : 8 ≤ j) : (255#64).getLsbD j = false ∧ (255#32).getLsbD j = false := by
  have h1 : (255 : Nat).testBit j = false := Nat.testBit_lt_two_pow (Nat.lt_of_lt_of_le (by decide) (Nat.pow_le_pow_right (by decide) h))
  constructor
  · rw [BitVec.getLsbD_ofNat, h1]; simp
  · rw [BitVec.getLsbD_ofNat, h1]; simp
theorem lt_bv (x : BitVec 64) (k : Nat) (hk : k ≤ 56) : ((x.sshiftRight k) &&& 255#64).setWidth 32 = ((x >>> k).setWidth 32) &&& 255#32 := by
  apply BitVec.eq_of_getLsbD_eq
  intro j hj
  simp only [BitVec.getLsbD_setWidth, BitVec.getLsbD_and, BitVec.getLsbD_sshiftRight, BitVec.getLsbD_ushiftRight, hj, decide_true, Bool.true_and]
  rcases Nat.lt_or_ge j 8 with h8 | h8
  · have h1 : ¬ 64 ≤ j := by omega
    have h2 : k + j < 64 := by omega
    rw [lt_b8 j h8]
    simp [h1, h2]
  · rw [(lt_b9 h8).1, (lt_b9 h8).2]
    simp
theorem lt_cM (w : Int64) : ∀ i, i < 8 → ((w >>> (((Int8.ofInt 8).toInt32 * nI i).toInt64 &&& 63)) &&& Int64.ofInt 255).toInt32 = lt_c w i := by
  intro i hi
  have hs : ∀ i, i < 8 → ((((Int8.ofInt 8).toInt32 * nI i).toInt64 &&& 63).toBitVec.smod 64).toNat = 8 * i := by decide +kernel
  have hu : ∀ i, i < 8 → ((((Int32.ofInt 8 * nI i).toInt64.toUInt64 &&& Int64.toUInt64 63)).toBitVec % 64).toNat = 8 * i := by decide +kernel
  apply Int32.toBitVec_inj.1
  have := lt_bv w.toBitVec (8 * i) (by omega)
  unfold lt_c
  simp only [Int32.toBitVec_and, Int64.toBitVec_toInt32, Int64.toBitVec_and, Int64.toBitVec_shiftRight, BitVec.sshiftRight']
  have e1 : (w.toUInt64 >>> ((Int32.ofInt 8 * nI i).toInt64.toUInt64 &&& Int64.toUInt64 63)).toInt64.toBitVec = w.toBitVec >>> (8 * i) := by
    show (w.toUInt64 >>> ((Int32.ofInt 8 * nI i).toInt64.toUInt64 &&& Int64.toUInt64 63)).toBitVec = _
    rw [UInt64.toBitVec_shiftRight, ← hu i hi]
    rfl
  have hs' : ((((Int8.ofInt 8).toInt32 * nI i).toInt64.toBitVec &&& Int64.toBitVec 63).smod 64).toNat = 8 * i := hs i hi
  rw [e1, hs', BitVec.signExtend_eq_setWidth_of_le _ (by decide), BitVec.signExtend_eq_setWidth_of_le _ (by decide)]
  exact this
theorem lt_bv2 (x : BitVec 64) (k : Nat) (hk : k ≤ 56) : ((x.sshiftRight k).setWidth 32) &&& 255#32 = ((x >>> k).setWidth 32) &&& 255#32 := by
  apply BitVec.eq_of_getLsbD_eq
  intro j hj
  simp only [BitVec.getLsbD_setWidth, BitVec.getLsbD_and, BitVec.getLsbD_sshiftRight, BitVec.getLsbD_ushiftRight, hj, decide_true, Bool.true_and]
  rcases Nat.lt_or_ge j 8 with h8 | h8
  · have h1 : ¬ 64 ≤ j := by omega
    have h2 : k + j < 64 := by omega
    simp [h1, h2]
  · rw [(lt_b9 h8).2]
    simp
theorem lt_cB (w : Int64) : ∀ i, i < 8 → (w >>> (((Int8.ofInt 8).toInt32 * nI i).toInt64 &&& 63)).toInt32 &&& 255 = lt_c w i := by
  intro i hi
  have hs : ∀ i, i < 8 → ((((Int8.ofInt 8).toInt32 * nI i).toInt64 &&& 63).toBitVec.smod 64).toNat = 8 * i := by decide +kernel
  have hu : ∀ i, i < 8 → ((((Int32.ofInt 8 * nI i).toInt64.toUInt64 &&& Int64.toUInt64 63)).toBitVec % 64).toNat = 8 * i := by decide +kernel
  apply Int32.toBitVec_inj.1
  have := lt_bv2 w.toBitVec (8 * i) (by omega)
  unfold lt_c
  simp only [Int32.toBitVec_and, Int64.toBitVec_toInt32, Int64.toBitVec_and, Int64.toBitVec_shiftRight, BitVec.sshiftRight']
  have e1 : (w.toUInt64 >>> ((Int32.ofInt 8 * nI i).toInt64.toUInt64 &&& Int64.toUInt64 63)).toInt64.toBitVec = w.toBitVec >>> (8 * i) := by
    show (w.toUInt64 >>> ((Int32.ofInt 8 * nI i).toInt64.toUInt64 &&& Int64.toUInt64 63)).toBitVec = _
    rw [UInt64.toBitVec_shiftRight, ← hu i hi]
    rfl
  have hs' : ((((Int8.ofInt 8).toInt32 * nI i).toInt64.toBitVec &&& Int64.toBitVec 63).smod 64).toNat = 8 * i := hs i hi
  rw [e1, hs', BitVec.signExtend_eq_setWidth_of_le _ (by decide), BitVec.signExtend_eq_setWidth_of_le _ (by decide)]
  exact this
theorem lt_and (z : Int32) : (z &&& 255).toInt = z.toInt % 256 := by
  have h1 : (z &&& 255).toBitVec.toNat = z.toBitVec.toNat % 256 := by
    rw [Int32.toBitVec_and, BitVec.toNat_and]
    exact Nat.and_two_pow_sub_one_eq_mod _ 8
  have h2 : (z &&& 255).toInt = ((z &&& 255).toBitVec.toNat : Int) := BitVec.toInt_eq_toNat_of_lt (by rw [h1]; omega)
  have h3 : z.toInt = z.toBitVec.toInt := rfl
  rw [h2, h1, h3, BitVec.toInt_eq_toNat_cond]
  split <;> omega
/-- the i-th byte as a number -/
def pg_lb (w : Int64) (i : Nat) : Int := (lt_c w i).toInt
theorem pg_lb_r (w : Int64) (i : Nat) : 0 ≤ pg_lb w i ∧ pg_lb w i ≤ 255 := by
  unfold pg_lb lt_c
  rw [lt_and]
  omega
theorem lt_8 {z : Int32} {c : Int32} (hc : z &&& 255 = c) (h : c.toInt ≤ 126) : z.toInt8.toInt32 = c := by
  apply Int32.toInt_inj.mp
  rw [Int8.toInt_toInt32, Int32.toInt_toInt8]
  have e := lt_and z
  rw [hc] at e
  have := Int.bmod_def z.toInt (2 ^ 8)
  rw [this]
  split <;> omega
/-- how many of the first bytes aren't 0; whether they are as told -/
def pg_ln (w : Int64) : Nat → Nat
  | 0 => 0
  | i + 1 => pg_ln w i + (if pg_lb w i = 0 then 0 else 1)
def pg_lok (w : Int64) : Nat → Prop
  | 0 => True
  | i + 1 => pg_lok w i ∧ pg_lb w i ≤ 126 ∧ (pg_lb w i = 0 ∨ pg_ln w i = i)
theorem pg_ln_le (w : Int64) : ∀ i, pg_ln w i ≤ i
  | 0 => Nat.le_refl 0
  | i + 1 => by
    rw [pg_ln]
    have := pg_ln_le w i
    split <;> omega
theorem lok_le {w : Int64} : ∀ (k i : Nat), pg_lok w (i + k) → pg_lok w i
  | 0, i, h => h
  | k + 1, i, h => lok_le k i h.1
theorem lok_at {w : Int64} {i : Nat} (h : pg_lok w 8) (hi : i < 8) : pg_lb w i ≤ 126 := by
  have := lok_le (7 - i) (i + 1) (by rw [show i + 1 + (7 - i) = 8 by omega]; exact h)
  exact this.2.1
theorem lt_nI {i : Int32} {j : Nat} (h : i.toInt = (j : Int)) (hj : j < 2147483648) : i = nI j := Int32.toInt_inj.mp (by rw [h, nI_toInt hj])
theorem mc_bast {l : Launch} {G : ax_T} {mi : ax_MI} {d : Nat} {Q : Option Value → ax_H → Nat → Prop} {pc pc' : Nat} {lv : List (Nat × Value)} {st : List Value} {h : ax_H} {n : Nat} (hmi : mi ∈ mt_prog) (H : mc_HW h n) {k N : Nat} {hs : List Nat} {pe : ax_PE} {x v : Int32} {i : Int} (ha : ax_at mi.2.2.2.2.2.2.2.2 pc = some (pc, .bastore, 1, pe, hs)) (hk : Nat.blt k 573 = true) (hf : ab_K[ab_k k]? = some (.inl (1, N, N, .inl (-128, 127, 0), []))) (hx : x.toInt = i) (h0 : 0 ≤ i) (hN : i < N) (h1 : -128 ≤ v.toInt) (h2 : v.toInt ≤ 127) (hp : pc + 1 = pc') (hR : ∀ h' : ax_H, mc_HW h' n → (∀ (k' : Nat) (i' : Int), ab_rd h' k' i' = if k' = k ∧ i' = i then some (.int v) else ab_rd h k' i') → mc_R l G mi d Q (pc', lv, st, h', n, 0, 0)) : mc_R l G mi d Q (pc, lv, .int v :: .int x :: .ref k :: st, h, n, 0, 0) := by
  subst hp
  obtain ⟨g, r1, r2, r3⟩ := mc_arr H hk hf rfl
  have hc := mc_clamp (x := x) (by omega)
  refine mc_stp hmi ha (h' := ax_hset h k (.inl (1, N, .inl ((x.toNatClampNeg, v) :: g)))) ?_ (hR _ ?_ ?_)
  · simp only [ax_step, ax_s_bast, r1, beq_self_eq_true, mc_in (x := x) (N := N) (by omega) (by omega), ab_nar h1 h2, decide_true, Bool.and_self, cond_true]
  · refine mc_HW_set H r1 fun S hS hcf => ?_
    rw [hf] at hS
    cases hS
    obtain ⟨b1, b2, b3, b4, b5, b6⟩ := hcf
    refine ⟨b1, b2, b3, b4, b5, fun j hj => ?_⟩
    have := b6 j hj
    by_cases hjx : j = x.toNatClampNeg
    · subst hjx
      have e : ax_fi ((x.toNatClampNeg, v) :: g) x.toNatClampNeg = v := by simp [ax_fi, upd]
      rw [e]
      exact ⟨⟨v, rfl, h1, h2, trivial⟩, ⟨v, rfl, h1, h2, trivial⟩⟩
    · have e : ax_fi ((x.toNatClampNeg, v) :: g) j = ax_fi g j := by simp [ax_fi, upd, hjx]
      rw [e]
      exact this
  · intro k' i'
    rw [ab_rd_ast r1, hc, hx]
set_option maxRecDepth 100000 in
theorem mc_codeAt {l : Launch} {G : ax_T} {d : Nat} {h : ax_H} {n : Nat} (hd : 1 ≤ d) (w : Int64) (i : Int32) {j : Nat} (hi : i.toInt = (j : Int)) (hj : j < 8) : mc_M l G d mt_X4_codeAt [.long w, .int i] h n (mc_P h n fun y => y = lt_c w j) := by
  obtain ⟨d, rfl⟩ : ∃ e, d = e + 1 := ⟨d - 1, by omega⟩
  obtain rfl := lt_nI hi (by omega)
  have hmi : mt_X4_codeAt ∈ mt_prog := List.mem_of_getElem? mi_X4_codeAt
  refine mc_to hmi rfl ?_
  show mc_R _ _ _ _ _ (0, [(0, .long w), (2, .int (nI j))], [], h, n, 0, 0)
  refine mc_cx hmi 8 (F' := (11, [(0, .long w), (2, .int (nI j))], [.int ((w.toUInt64 >>> (((Int8.ofInt 8).toInt32 * (nI j)).toInt64.toUInt64 &&& Int64.toUInt64 63)).toInt64.toInt32 &&& (Int16.ofInt 255).toInt32)], h, n, 0, 0)) (by with_unfolding_all rfl) ?_
  have e101 : ((Int8.ofInt 8).toInt32 * (nI j)).toInt = 8 * (j : Int) := mc_mul (by decide) hi (by omega) (by omega)
  exact mc_ret hmi rfl rfl rfl ⟨rfl, rfl, _, rfl, rfl⟩
set_option maxRecDepth 100000 in
theorem li_loop {l : Launch} {G : ax_T} {d : Nat} {h : ax_H} {n : Nat} (hd : 1 ≤ d) (w : Int64) : ∀ (c j : Nat) (m i : Int32), j + c = 8 → i.toInt = (j : Int) → m.toInt = (pg_ln w j : Int) → pg_lok w j → mc_R l G mt_X4_lettersIn d (mc_P h n fun y => pg_lok w 8 ∧ y.toInt = (pg_ln w 8 : Int) ∨ ¬ pg_lok w 8 ∧ y.toInt = -1) (4, [(0, .long w), (2, .int m), (3, .int i)], [], h, n, 0, 0) := by
  have hmi : mt_X4_lettersIn ∈ mt_prog := List.mem_of_getElem? mi_X4_lettersIn
  intro c
  induction c with
  | zero =>
    intro j m i hj hi hm hok
    have hl := pg_ln_le w j
    refine mc_cx hmi 2 (F' := (7, [(0, .long w), (2, .int m), (3, .int i)], [.int (Int8.ofInt 8).toInt32, .int i], h, n, 0, 0)) (by with_unfolding_all rfl) ?_
    refine mc_ci hmi (c := .ge) (tg := 50) (pc' := 10) rfl rfl rfl hi (by decide) (fun (q102 : 8 ≤ (j : Int)) => ?_) (fun (q102 : (j : Int) < 8) => ?_)
    · obtain rfl : j = 8 := by omega
      refine mc_cx hmi 1 (F' := (51, [(0, .long w), (2, .int m), (3, .int i)], [.int m], h, n, 0, 0)) (by with_unfolding_all rfl) ?_
      exact mc_ret hmi rfl rfl rfl ⟨rfl, rfl, _, rfl, Or.inl ⟨hok, hm⟩⟩
    · exact absurd q102 (by omega)
  | succ c ih =>
    intro j m i hj hi hm hok
    have hl := pg_ln_le w j
    refine mc_cx hmi 2 (F' := (7, [(0, .long w), (2, .int m), (3, .int i)], [.int (Int8.ofInt 8).toInt32, .int i], h, n, 0, 0)) (by with_unfolding_all rfl) ?_
    refine mc_ci hmi (c := .ge) (tg := 50) (pc' := 10) rfl rfl rfl hi (by decide) (fun (q103 : 8 ≤ (j : Int)) => ?_) (fun (q103 : (j : Int) < 8) => ?_)
    · exact absurd q103 (by omega)
    · refine mc_cx hmi 2 (F' := (12, [(0, .long w), (2, .int m), (3, .int i)], [.int i, .long w], h, n, 0, 0)) (by with_unfolding_all rfl) ?_
      refine mc_callP hmi (en := (12, .invokestatic 19, 3, (3, 50, 0, 0), [463, 462])) rfl (q := (mt_X4_codeAt, [.long w, .int i], [])) (by with_unfolding_all rfl) ⟨rfl, rfl⟩ (pc' := 15) rfl (mc_codeAt hd w i hi (by omega)) (fun y104 e105 => ?_)
      have hv : y104.toInt = pg_lb w j := congrArg Int32.toInt e105
      have hlb := pg_lb_r w j
      have bad : ¬ pg_lok w (j + 1) → mc_R l G mt_X4_lettersIn d (mc_P h n fun y => pg_lok w 8 ∧ y.toInt = (pg_ln w 8 : Int) ∨ ¬ pg_lok w 8 ∧ y.toInt = -1) (34, [(0, .long w), (2, .int m), (3, .int i), (4, .int y104)], [], h, n, 0, 0) := by
        intro hb
        refine mc_cx hmi 1 (F' := (35, [(0, .long w), (2, .int m), (3, .int i), (4, .int y104)], [.int (Int32.ofInt (-1))], h, n, 0, 0)) (by with_unfolding_all rfl) ?_
        exact mc_ret hmi rfl rfl rfl ⟨rfl, rfl, _, rfl, Or.inr ⟨fun u => hb (lok_le (7 - j) (j + 1) (by rw [show j + 1 + (7 - j) = 8 by omega]; exact u)), by decide⟩⟩
      have good : pg_lok w (j + 1) → mc_R l G mt_X4_lettersIn d (mc_P h n fun y => pg_lok w 8 ∧ y.toInt = (pg_ln w 8 : Int) ∨ ¬ pg_lok w 8 ∧ y.toInt = -1) (36, [(0, .long w), (2, .int m), (3, .int i), (4, .int y104)], [], h, n, 0, 0) := by
        intro hg
        refine mc_cx hmi 1 (F' := (38, [(0, .long w), (2, .int m), (3, .int i), (4, .int y104)], [.int y104], h, n, 0, 0)) (by with_unfolding_all rfl) ?_
        refine mc_cz hmi (c := .eq) (tg := 44) (pc' := 41) rfl rfl rfl hv (fun (q106 : pg_lb w j = 0) => ?_) (fun (q106 : pg_lb w j ≠ 0) => ?_)
        · have hn : pg_ln w (j + 1) = pg_ln w j := by rw [pg_ln, if_pos q106] <;> rfl
          refine mc_cx hmi 2 (F' := (4, [(3, .int (i + Int32.ofInt 1)), (0, .long w), (2, .int m), (4, .int y104)], [], h, n, 0, 0)) (by with_unfolding_all rfl) ?_
          have e107 : (i + Int32.ofInt 1).toInt = (j : Int) + 1 := mc_add hi (by decide) (by omega) (by omega)
          refine mc_lvs (lv' := [(0, .long w), (2, .int m), (3, .int (i + Int32.ofInt 1))]) (by simp) ?_
          exact ih (j + 1) m (i + Int32.ofInt 1) (by omega) (by rw [e107]; omega) (by rw [hm, hn]) hg
        · have hn : pg_ln w (j + 1) = pg_ln w j + 1 := by rw [pg_ln, if_neg q106]
          refine mc_cx hmi 3 (F' := (4, [(3, .int (i + Int32.ofInt 1)), (2, .int (m + Int32.ofInt 1)), (0, .long w), (4, .int y104)], [], h, n, 0, 0)) (by with_unfolding_all rfl) ?_
          have e108 : (m + Int32.ofInt 1).toInt = (pg_ln w j : Int) + 1 := mc_add hm (by decide) (by omega) (by omega)
          have e109 : (i + Int32.ofInt 1).toInt = (j : Int) + 1 := mc_add hi (by decide) (by omega) (by omega)
          refine mc_lvs (lv' := [(0, .long w), (2, .int (m + Int32.ofInt 1)), (3, .int (i + Int32.ofInt 1))]) (by simp) ?_
          exact ih (j + 1) (m + Int32.ofInt 1) (i + Int32.ofInt 1) (by omega) (by rw [e109]; omega) (by rw [e108, hn]; omega) hg
      refine mc_cx hmi 3 (F' := (21, [(4, .int y104), (0, .long w), (2, .int m), (3, .int i)], [.int (Int8.ofInt 126).toInt32, .int y104], h, n, 0, 0)) (by with_unfolding_all rfl) ?_
      refine mc_ci hmi (c := .gt) (tg := 34) (pc' := 24) rfl rfl rfl hv (by decide) (fun (q110 : 126 < pg_lb w j) => ?_) (fun (q110 : pg_lb w j ≤ 126) => ?_)
      · refine mc_lvs (lv' := [(0, .long w), (2, .int m), (3, .int i), (4, .int y104)]) (by simp) ?_
        exact bad (fun u => by have := u.2.1; omega)
      · refine mc_cx hmi 1 (F' := (26, [(4, .int y104), (0, .long w), (2, .int m), (3, .int i)], [.int y104], h, n, 0, 0)) (by with_unfolding_all rfl) ?_
        refine mc_cz hmi (c := .eq) (tg := 36) (pc' := 29) rfl rfl rfl hv (fun (q111 : pg_lb w j = 0) => ?_) (fun (q111 : pg_lb w j ≠ 0) => ?_)
        · refine mc_lvs (lv' := [(0, .long w), (2, .int m), (3, .int i), (4, .int y104)]) (by simp) ?_
          exact good ⟨hok, by omega, Or.inl q111⟩
        · refine mc_cx hmi 2 (F' := (31, [(4, .int y104), (0, .long w), (2, .int m), (3, .int i)], [.int i, .int m], h, n, 0, 0)) (by with_unfolding_all rfl) ?_
          refine mc_ci hmi (c := .ge) (tg := 36) (pc' := 34) rfl rfl rfl hm hi (fun (q112 : (j : Int) ≤ (pg_ln w j : Int)) => ?_) (fun (q112 : (pg_ln w j : Int) < (j : Int)) => ?_)
          · refine mc_lvs (lv' := [(0, .long w), (2, .int m), (3, .int i), (4, .int y104)]) (by simp) ?_
            exact good ⟨hok, by omega, Or.inr (by omega)⟩
          · refine mc_lvs (lv' := [(0, .long w), (2, .int m), (3, .int i), (4, .int y104)]) (by simp) ?_
            exact bad (fun u => by have := u.2.2; omega)
set_option maxRecDepth 100000 in
theorem mc_lettersIn {l : Launch} {G : ax_T} {d : Nat} {h : ax_H} {n : Nat} (hd : 2 ≤ d) (w : Int64) : mc_M l G d mt_X4_lettersIn [.long w] h n (mc_P h n fun y => pg_lok w 8 ∧ y.toInt = (pg_ln w 8 : Int) ∨ ¬ pg_lok w 8 ∧ y.toInt = -1) := by
  obtain ⟨d, rfl⟩ : ∃ e, d = e + 1 := ⟨d - 1, by omega⟩
  have hmi : mt_X4_lettersIn ∈ mt_prog := List.mem_of_getElem? mi_X4_lettersIn
  refine mc_to hmi rfl ?_
  show mc_R _ _ _ _ _ (0, [(0, .long w)], [], h, n, 0, 0)
  refine mc_cx hmi 4 (F' := (4, [(3, .int (Int32.ofInt 0)), (2, .int (Int32.ofInt 0)), (0, .long w)], [], h, n, 0, 0)) (by with_unfolding_all rfl) ?_
  refine mc_lvs (lv' := [(0, .long w), (2, .int (Int32.ofInt 0)), (3, .int (Int32.ofInt 0))]) (by simp) ?_
  exact li_loop (by omega) w 8 0 _ _ rfl rfl rfl trivial
set_option maxRecDepth 100000 in
theorem ap_loop {l : Launch} {G : ax_T} {d : Nat} {h : ax_H} {n : Nat} (hd : 1 ≤ d) (H : mc_HW h n) (w : Int64) (c : Int32) {m : Nat} (hc : c.toInt = (m : Int)) (hm8 : m ≤ 8) (h80 : ab_ri h 1 1 + (m : Int) ≤ 80) : ∀ (e j : Nat) (h2 : ax_H) (i : Int32), j + e = m → i.toInt = (j : Int) → mc_HW h2 n → ab_ri h2 1 1 = ab_ri h 1 1 + (j : Int) → (∀ t : Nat, t < j → ab_rd h2 2 (ab_ri h 1 1 + (t : Int)) = some (.int (lt_c w t))) → (∀ (k' : Nat) (i' : Int), (k' = 2 → i' < ab_ri h 1 1) → (k' = 1 → i' ≠ 1) → ab_rd h2 k' i' = ab_rd h k' i') → mc_R l G mt_X4_append d (fun r' h' n' => n' = n ∧ r' = none ∧ mc_HW h' n ∧ ab_ri h' 1 1 = ab_ri h 1 1 + (m : Int) ∧ (∀ t : Nat, t < m → ab_rd h' 2 (ab_ri h 1 1 + (t : Int)) = some (.int (lt_c w t))) ∧ (∀ (k' : Nat) (i' : Int), (k' = 2 → i' < ab_ri h 1 1) → (k' = 1 → i' ≠ 1) → ab_rd h' k' i' = ab_rd h k' i')) (3, [(0, .ref 1), (1, .long w), (3, .int c), (4, .int i)], [], h2, n, 0, 0) := by
  have hmi : mt_X4_append ∈ mt_prog := List.mem_of_getElem? mi_X4_append
  have hlen : 0 ≤ ab_ri h 1 1 ∧ ab_ri h 1 1 ≤ 80 := mc_frng H (k := 1) (j := 1) (ci := 4) rfl rfl
  intro e
  induction e with
  | zero =>
    intro j h2 i hj hi H2 hl2 hct hf
    refine mc_cx hmi 2 (F' := (6, [(0, .ref 1), (1, .long w), (3, .int c), (4, .int i)], [.int c, .int i], h2, n, 0, 0)) (by with_unfolding_all rfl) ?_
    refine mc_ci hmi (c := .ge) (tg := 49) (pc' := 9) rfl rfl rfl hi hc (fun (q113 : (m : Int) ≤ (j : Int)) => ?_) (fun (q113 : (j : Int) < (m : Int)) => ?_)
    · obtain rfl : j = m := by omega
      exact mc_ret hmi rfl rfl rfl ⟨rfl, rfl, H2, hl2, hct, hf⟩
    · exact absurd q113 (by omega)
  | succ e ih =>
    intro j h2 i hj hi H2 hl2 hct hf
    refine mc_cx hmi 2 (F' := (6, [(0, .ref 1), (1, .long w), (3, .int c), (4, .int i)], [.int c, .int i], h2, n, 0, 0)) (by with_unfolding_all rfl) ?_
    refine mc_ci hmi (c := .ge) (tg := 49) (pc' := 9) rfl rfl rfl hi hc (fun (q114 : (m : Int) ≤ (j : Int)) => ?_) (fun (q114 : (j : Int) < (m : Int)) => ?_)
    · exact absurd q114 (by omega)
    · refine mc_cx hmi 1 (F' := (10, [(0, .ref 1), (1, .long w), (3, .int c), (4, .int i)], [.ref 1], h2, n, 0, 0)) (by with_unfolding_all rfl) ?_
      refine mc_geti hmi H2 (k := 1) (j := 1) (pc' := 13) rfl rfl rfl rfl (fun y115 (e116 : y115.toInt = ab_ri h2 1 1) r117 r118 => ?_)
      rw [e116] at r117 r118
      refine mc_cx hmi 1 (F' := (15, [(0, .ref 1), (1, .long w), (3, .int c), (4, .int i)], [.int (Int8.ofInt 80).toInt32, .int y115], h2, n, 0, 0)) (by with_unfolding_all rfl) ?_
      refine mc_ci hmi (c := .ge) (tg := 49) (pc' := 18) rfl rfl rfl e116 (by decide) (fun (q119 : 80 ≤ ab_ri h2 1 1) => ?_) (fun (q119 : ab_ri h2 1 1 < 80) => ?_)
      · exact absurd q119 (by omega)
      · refine mc_cx hmi 1 (F' := (19, [(0, .ref 1), (1, .long w), (3, .int c), (4, .int i)], [.ref 1], h2, n, 0, 0)) (by with_unfolding_all rfl) ?_
        refine mc_getr hmi H2 (k := 1) (c := 2) (pc' := 22) rfl rfl rfl rfl rfl ?_
        refine mc_cx hmi 1 (F' := (23, [(0, .ref 1), (1, .long w), (3, .int c), (4, .int i)], [.ref 1, .ref 2], h2, n, 0, 0)) (by with_unfolding_all rfl) ?_
        refine mc_geti hmi H2 (k := 1) (j := 1) (pc' := 26) rfl rfl rfl rfl (fun y120 (e121 : y120.toInt = ab_ri h2 1 1) r122 r123 => ?_)
        rw [e121] at r122 r123
        refine mc_cx hmi 2 (F' := (29, [(0, .ref 1), (1, .long w), (3, .int c), (4, .int i)], [.int i, .long w, .int y120, .ref 2], h2, n, 0, 0)) (by with_unfolding_all rfl) ?_
        refine mc_callP hmi (en := (29, .invokestatic 19, 3, (3, 50, 0, 0), [463, 462])) rfl (q := (mt_X4_codeAt, [.long w, .int i], [.int y120, .ref 2])) (by with_unfolding_all rfl) ⟨rfl, rfl⟩ (pc' := 32) rfl (mc_codeAt hd w i hi (by omega)) (fun y124 e125 => ?_)
        have hv : y124.toInt = pg_lb w j := congrArg Int32.toInt e125
        have hlb := pg_lb_r w j
        refine mc_iast hmi H2 (k := 2) (i := ab_ri h2 1 1) (pc' := 33) rfl rfl rfl e121 (by omega) (by omega) (by rw [hv]; omega) (by rw [hv]; omega) rfl (fun h126 H127 w128 => ?_)
        have l3 : ab_ri h126 1 1 = ab_ri h 1 1 + (j : Int) := by rw [mc_ri w128, if_neg (fun q => absurd q.1 (by decide))]; exact hl2
        refine mc_cx hmi 2 (F' := (35, [(0, .ref 1), (1, .long w), (3, .int c), (4, .int i)], [.ref 1, .ref 1], h126, n, 0, 0)) (by with_unfolding_all rfl) ?_
        refine mc_geti hmi H127 (k := 1) (j := 1) (pc' := 38) rfl rfl rfl rfl (fun y129 (e130 : y129.toInt = ab_ri h126 1 1) r131 r132 => ?_)
        rw [e130] at r131 r132
        refine mc_cx hmi 2 (F' := (40, [(0, .ref 1), (1, .long w), (3, .int c), (4, .int i)], [.int (y129 + (Int32.ofInt 1)), .ref 1], h126, n, 0, 0)) (by with_unfolding_all rfl) ?_
        have e133 : (y129 + (Int32.ofInt 1)).toInt = ab_ri h126 1 1 + 1 := mc_add e130 (by decide) (by omega) (by omega)
        refine mc_puti hmi H127 (k := 1) (j := 1) (pc' := 43) rfl rfl rfl rfl (by rw [e133]; omega) (by rw [e133]; omega) rfl (fun h134 H135 w136 => ?_)
        refine mc_cx hmi 2 (F' := (3, [(4, .int (i + Int32.ofInt 1)), (0, .ref 1), (1, .long w), (3, .int c)], [], h134, n, 0, 0)) (by with_unfolding_all rfl) ?_
        have e137 : (i + Int32.ofInt 1).toInt = (j : Int) + 1 := mc_add hi (by decide) (by omega) (by omega)
        refine mc_lvs (lv' := [(0, .ref 1), (1, .long w), (3, .int c), (4, .int (i + Int32.ofInt 1))]) (by simp) ?_
        refine ih (j + 1) h134 (i + Int32.ofInt 1) (by omega) (by rw [e137]; omega) H135 ?_ (fun t ht => ?_) (fun k' i' p1 p2 => ?_)
        · rw [mc_ri w136, if_pos ⟨rfl, rfl⟩]; omega
        · rw [w136, if_neg (fun q => absurd q.1 (by decide)), w128]
          by_cases u : t = j
          · rw [if_pos ⟨rfl, by rw [u]; omega⟩, u, e125]
          · rw [if_neg (fun q => by have := q.2; omega)]; exact hct t (by omega)
        · rw [w136, if_neg (fun q => p2 q.1 q.2), w128, if_neg (fun q => by have := p1 q.1; have := q.2; omega)]; exact hf k' i' p1 p2
set_option maxRecDepth 100000 in
theorem mc_append {l : Launch} {G : ax_T} {d : Nat} {h : ax_H} {n : Nat} (hd : 2 ≤ d) (H : mc_HW h n) (w : Int64) (c : Int32) {m : Nat} (hc : c.toInt = (m : Int)) (hm8 : m ≤ 8) (h80 : ab_ri h 1 1 + (m : Int) ≤ 80) : mc_M l G d mt_X4_append [.ref 1, .long w, .int c] h n (fun r' h' n' => n' = n ∧ r' = none ∧ mc_HW h' n ∧ ab_ri h' 1 1 = ab_ri h 1 1 + (m : Int) ∧ (∀ t : Nat, t < m → ab_rd h' 2 (ab_ri h 1 1 + (t : Int)) = some (.int (lt_c w t))) ∧ (∀ (k' : Nat) (i' : Int), (k' = 2 → i' < ab_ri h 1 1) → (k' = 1 → i' ≠ 1) → ab_rd h' k' i' = ab_rd h k' i')) := by
  obtain ⟨d, rfl⟩ : ∃ e, d = e + 1 := ⟨d - 1, by omega⟩
  have hmi : mt_X4_append ∈ mt_prog := List.mem_of_getElem? mi_X4_append
  refine mc_to hmi rfl ?_
  show mc_R _ _ _ _ _ (0, [(0, .ref 1), (1, .long w), (3, .int c)], [], h, n, 0, 0)
  refine mc_cx hmi 2 (F' := (3, [(4, .int (Int32.ofInt 0)), (0, .ref 1), (1, .long w), (3, .int c)], [], h, n, 0, 0)) (by with_unfolding_all rfl) ?_
  refine mc_lvs (lv' := [(0, .ref 1), (1, .long w), (3, .int c), (4, .int (Int32.ofInt 0))]) (by simp) ?_
  exact ap_loop (by omega) H w c hc hm8 h80 m 0 h _ (Nat.zero_add _) rfl H (by omega) (fun t ht => absurd ht (Nat.not_lt_zero t)) (fun _ _ _ _ => rfl)
set_option maxRecDepth 100000 in
theorem le_X10 {l : Launch} {G : ax_T} {d : Nat} {h : ax_H} {n : Nat} (hd : 3 ≤ d) (H : mc_HW h n) (w : Int64) : mc_M l G d mt_X10_letters [.ref 0, .long w] h n (fun r' h' n' => n' = n ∧ mc_HW h' n ∧ ∃ y : Int32, r' = some (.int y) ∧ ((¬ pg_lok w 8 ∧ y = Int32.ofInt (-102) ∧ h' = h) ∨ (pg_lok w 8 ∧ 80 < ab_ri h 1 1 + (pg_ln w 8 : Int) ∧ y = Int32.ofInt (-104) ∧ h' = h) ∨ (pg_lok w 8 ∧ ab_ri h 1 1 + (pg_ln w 8 : Int) ≤ 80 ∧ y.toInt = ab_ri h 1 1 + (pg_ln w 8 : Int) ∧ ab_ri h' 1 1 = ab_ri h 1 1 + (pg_ln w 8 : Int) ∧ (∀ t : Nat, t < pg_ln w 8 → ab_rd h' 2 (ab_ri h 1 1 + (t : Int)) = some (.int (lt_c w t))) ∧ (∀ (k' : Nat) (i' : Int), (k' = 2 → i' < ab_ri h 1 1) → (k' = 1 → i' ≠ 1) → ab_rd h' k' i' = ab_rd h k' i')))) := by
  obtain ⟨d, rfl⟩ : ∃ e, d = e + 1 := ⟨d - 1, by omega⟩
  have hmi : mt_X10_letters ∈ mt_prog := List.mem_of_getElem? mi_X10_letters
  have hlen : 0 ≤ ab_ri h 1 1 ∧ ab_ri h 1 1 ≤ 80 := mc_frng H (k := 1) (j := 1) (ci := 4) rfl rfl
  have hl8 := pg_ln_le w 8
  refine mc_to hmi rfl ?_
  show mc_R _ _ _ _ _ (0, [(0, .ref 0), (1, .long w)], [], h, n, 0, 0)
  refine mc_cx hmi 1 (F' := (1, [(0, .ref 0), (1, .long w)], [.long w], h, n, 0, 0)) (by with_unfolding_all rfl) ?_
  refine mc_callP hmi (en := (1, .invokestatic 75, 3, (4, 51, 0, 0), [460, 459])) rfl (q := (mt_X4_lettersIn, [.long w], [])) (by with_unfolding_all rfl) ⟨rfl, rfl⟩ (pc' := 4) rfl (mc_lettersIn (by omega) w) (fun y138 e139 => ?_)
  refine mc_cx hmi 2 (F' := (6, [(3, .int y138), (0, .ref 0), (1, .long w)], [.int y138], h, n, 0, 0)) (by with_unfolding_all rfl) ?_
  refine mc_cz hmi (c := .ge) (tg := 12) (pc' := 9) rfl rfl rfl rfl (fun (q140 : 0 ≤ y138.toInt) => ?_) (fun (q140 : y138.toInt < 0) => ?_)
  · obtain ⟨hok, hy⟩ := e139.elim id (fun q => absurd q.2 (by omega))
    refine mc_cx hmi 1 (F' := (13, [(3, .int y138), (0, .ref 0), (1, .long w)], [.ref 0], h, n, 0, 0)) (by with_unfolding_all rfl) ?_
    refine mc_getr hmi H (k := 0) (c := 1) (pc' := 16) rfl rfl rfl rfl rfl ?_
    refine mc_geti hmi H (k := 1) (j := 1) (pc' := 19) rfl rfl rfl rfl (fun y141 (e142 : y141.toInt = ab_ri h 1 1) r143 r144 => ?_)
    rw [e142] at r143 r144
    refine mc_cx hmi 3 (F' := (23, [(3, .int y138), (0, .ref 0), (1, .long w)], [.int (Int8.ofInt 80).toInt32, .int (y141 + y138)], h, n, 0, 0)) (by with_unfolding_all rfl) ?_
    have e145 : (y141 + y138).toInt = ab_ri h 1 1 + (pg_ln w 8 : Int) := mc_add e142 hy (by omega) (by omega)
    refine mc_ci hmi (c := .le) (tg := 29) (pc' := 26) rfl rfl rfl e145 (by decide) (fun (q146 : (ab_ri h 1 1 + (pg_ln w 8 : Int)) ≤ 80) => ?_) (fun (q146 : 80 < (ab_ri h 1 1 + (pg_ln w 8 : Int))) => ?_)
    · refine mc_cx hmi 1 (F' := (30, [(3, .int y138), (0, .ref 0), (1, .long w)], [.ref 0], h, n, 0, 0)) (by with_unfolding_all rfl) ?_
      refine mc_getr hmi H (k := 0) (c := 1) (pc' := 33) rfl rfl rfl rfl rfl ?_
      refine mc_cx hmi 2 (F' := (35, [(3, .int y138), (0, .ref 0), (1, .long w)], [.int y138, .long w, .ref 1], h, n, 0, 0)) (by with_unfolding_all rfl) ?_
      refine mc_call hmi (en := (35, .invokevirtual 82, 3, (4, 52, 4, 0), [467, 0, 465])) rfl (q := (mt_X4_append, [.ref 1, .long w, .int y138], [])) (mc_inv H (as := [.long w, .int y138]) (rest := []) rfl (by with_unfolding_all rfl) rfl rfl rfl) ⟨rfl, rfl⟩ (pc' := 38) rfl (mc_mono (mc_append (by omega) H w y138 hy hl8 (by omega)) ?_)
      intro r2 h2 n2 P2
      obtain ⟨e1, e2, H2, g1, g2, f2⟩ := P2
      rw [e1, e2]
      show mc_R _ _ _ _ _ (38, [(3, .int y138), (0, .ref 0), (1, .long w)], [], h2, n, 0, 0)
      refine mc_cx hmi 1 (F' := (39, [(3, .int y138), (0, .ref 0), (1, .long w)], [.ref 0], h2, n, 0, 0)) (by with_unfolding_all rfl) ?_
      refine mc_getr hmi H2 (k := 0) (c := 1) (pc' := 42) rfl rfl rfl rfl rfl ?_
      refine mc_geti hmi H2 (k := 1) (j := 1) (pc' := 45) rfl rfl rfl rfl (fun y147 (e148 : y147.toInt = ab_ri h2 1 1) r149 r150 => ?_)
      rw [e148] at r149 r150
      exact mc_ret hmi rfl rfl rfl ⟨rfl, H2, _, rfl, Or.inr (Or.inr ⟨hok, by omega, by rw [e148]; exact g1, g1, g2, f2⟩)⟩
    · refine mc_cx hmi 1 (F' := (28, [(3, .int y138), (0, .ref 0), (1, .long w)], [.int (Int8.ofInt (-104)).toInt32], h, n, 0, 0)) (by with_unfolding_all rfl) ?_
      exact mc_ret hmi rfl rfl rfl ⟨rfl, H, _, rfl, Or.inr (Or.inl ⟨hok, by omega, by decide, rfl⟩)⟩
  · refine mc_cx hmi 1 (F' := (11, [(3, .int y138), (0, .ref 0), (1, .long w)], [.int (Int8.ofInt (-102)).toInt32], h, n, 0, 0)) (by with_unfolding_all rfl) ?_
    exact mc_ret hmi rfl rfl rfl ⟨rfl, H, _, rfl, Or.inl ⟨e139.elim (fun q => by omega) (fun q => q.1), by decide, rfl⟩⟩
def le_Q (h : ax_H) (n : Nat) (w : Int64) : Option Value → ax_H → Nat → Prop := (fun r' h' n' => n' = n ∧ mc_HW h' n ∧ ∃ y : Int32, r' = some (.int y) ∧ ((¬ pg_lok w 8 ∧ y = Int32.ofInt (-102) ∧ h' = h) ∨ (pg_lok w 8 ∧ 80 < ab_ri h 542 2 + (pg_ln w 8 : Int) ∧ y = Int32.ofInt (-104) ∧ h' = h) ∨ (pg_lok w 8 ∧ ab_ri h 542 2 + (pg_ln w 8 : Int) ≤ 80 ∧ y.toInt = ab_ri h 542 2 + (pg_ln w 8 : Int) ∧ ab_ri h' 542 2 = ab_ri h 542 2 + (pg_ln w 8 : Int) ∧ (∀ t : Nat, t < pg_ln w 8 → ab_rd h' 545 (ab_ri h 542 2 + (t : Int)) = some (.int (lt_c w t))) ∧ (∀ (k' : Nat) (i' : Int), (k' = 545 → i' < ab_ri h 542 2) → (k' = 542 → i' ≠ 2) → ab_rd h' k' i' = ab_rd h k' i'))))
set_option maxRecDepth 100000 in
theorem lm_2 {l : Launch} {G : ax_T} {d : Nat} {h : ax_H} {n : Nat} (H : mc_HW h n) (w : Int64) (hok : pg_lok w 8) (m : Int32) (hm : m.toInt = (pg_ln w 8 : Int)) (h80 : ab_ri h 542 2 + (pg_ln w 8 : Int) ≤ 80) : ∀ (e j : Nat) (h2 : ax_H) (i : Int32), j + e = pg_ln w 8 → i.toInt = (j : Int) → mc_HW h2 n → (∀ t : Nat, t < j → ab_rd h2 545 (ab_ri h 542 2 + (t : Int)) = some (.int (lt_c w t))) → (∀ (k' : Nat) (i' : Int), (k' = 545 → i' < ab_ri h 542 2) → ab_rd h2 k' i' = ab_rd h k' i') → mc_R l G mt_X11_letters d (le_Q h n w) (102, [(0, .ref 542), (1, .long w), (3, .int m), (5, .int i)], [], h2, n, 0, 0) := by
  have hmi : mt_X11_letters ∈ mt_prog := List.mem_of_getElem? mi_X11_letters
  have hlen : 0 ≤ ab_ri h 542 2 ∧ ab_ri h 542 2 ≤ 80 := mc_frng H (k := 542) (j := 2) (ci := 11) rfl rfl
  have hl8 := pg_ln_le w 8
  intro e
  induction e with
  | zero =>
    intro j h2 i hj hi H2 hct hf
    have hl2 : ab_ri h2 542 2 = ab_ri h 542 2 := ab_ri_of (hf 542 2 (fun q => absurd q (by decide)))
    refine mc_cx hmi 2 (F' := (105, [(0, .ref 542), (1, .long w), (3, .int m), (5, .int i)], [.int m, .int i], h2, n, 0, 0)) (by with_unfolding_all rfl) ?_
    refine mc_ci hmi (c := .ge) (tg := 135) (pc' := 108) rfl rfl rfl hi hm (fun (q151 : (pg_ln w 8 : Int) ≤ (j : Int)) => ?_) (fun (q151 : (j : Int) < (pg_ln w 8 : Int)) => ?_)
    · have ej : j = pg_ln w 8 := by omega
      rw [ej] at hct
      refine mc_cx hmi 2 (F' := (137, [(0, .ref 542), (1, .long w), (3, .int m), (5, .int i)], [.ref 542, .ref 542], h2, n, 0, 0)) (by with_unfolding_all rfl) ?_
      refine mc_geti hmi H2 (k := 542) (j := 2) (pc' := 140) rfl rfl rfl rfl (fun y152 (e153 : y152.toInt = ab_ri h2 542 2) r154 r155 => ?_)
      rw [e153] at r154 r155
      refine mc_cx hmi 2 (F' := (142, [(0, .ref 542), (1, .long w), (3, .int m), (5, .int i)], [.int (y152 + m), .ref 542], h2, n, 0, 0)) (by with_unfolding_all rfl) ?_
      have e156 : (y152 + m).toInt = ab_ri h2 542 2 + (pg_ln w 8 : Int) := mc_add e153 hm (by omega) (by omega)
      refine mc_puti hmi H2 (k := 542) (j := 2) (pc' := 145) rfl rfl rfl rfl (by rw [e156]; omega) (by rw [e156]; omega) rfl (fun h157 H158 w159 => ?_)
      refine mc_cx hmi 1 (F' := (146, [(0, .ref 542), (1, .long w), (3, .int m), (5, .int i)], [.ref 542], h157, n, 0, 0)) (by with_unfolding_all rfl) ?_
      refine mc_geti hmi H158 (k := 542) (j := 2) (pc' := 149) rfl rfl rfl rfl (fun y160 (e161 : y160.toInt = ab_ri h157 542 2) r162 r163 => ?_)
      rw [e161] at r162 r163
      have l3 : ab_ri h157 542 2 = ab_ri h 542 2 + (pg_ln w 8 : Int) := by rw [mc_ri w159, if_pos ⟨rfl, rfl⟩]; omega
      refine mc_ret hmi rfl rfl rfl ⟨rfl, H158, _, rfl, Or.inr (Or.inr ⟨hok, h80, by rw [e161]; exact l3, l3, fun t ht => ?_, fun k' i' p1 p2 => ?_⟩)⟩
      · rw [w159, if_neg (fun q => absurd q.1 (by decide))]; exact hct t ht
      · rw [w159, if_neg (fun q => p2 q.1 q.2)]; exact hf k' i' p1
    · exact absurd q151 (by omega)
  | succ e ih =>
    intro j h2 i hj hi H2 hct hf
    have hl2 : ab_ri h2 542 2 = ab_ri h 542 2 := ab_ri_of (hf 542 2 (fun q => absurd q (by decide)))
    refine mc_cx hmi 2 (F' := (105, [(0, .ref 542), (1, .long w), (3, .int m), (5, .int i)], [.int m, .int i], h2, n, 0, 0)) (by with_unfolding_all rfl) ?_
    refine mc_ci hmi (c := .ge) (tg := 135) (pc' := 108) rfl rfl rfl hi hm (fun (q164 : (pg_ln w 8 : Int) ≤ (j : Int)) => ?_) (fun (q164 : (j : Int) < (pg_ln w 8 : Int)) => ?_)
    · exact absurd q164 (by omega)
    · have h126 := lok_at hok (i := j) (by omega)
      have hlb := pg_lb_r w j
      refine mc_cx hmi 1 (F' := (109, [(0, .ref 542), (1, .long w), (3, .int m), (5, .int i)], [.ref 542], h2, n, 0, 0)) (by with_unfolding_all rfl) ?_
      refine mc_getr hmi H2 (k := 542) (c := 545) (pc' := 112) rfl rfl rfl rfl rfl ?_
      refine mc_cx hmi 1 (F' := (113, [(0, .ref 542), (1, .long w), (3, .int m), (5, .int i)], [.ref 542, .ref 545], h2, n, 0, 0)) (by with_unfolding_all rfl) ?_
      refine mc_geti hmi H2 (k := 542) (j := 2) (pc' := 116) rfl rfl rfl rfl (fun y165 (e166 : y165.toInt = ab_ri h2 542 2) r167 r168 => ?_)
      rw [e166] at r167 r168
      refine mc_cx hmi 8 (F' := (127, [(0, .ref 542), (1, .long w), (3, .int m), (5, .int i)], [.int (w >>> (((Int8.ofInt 8).toInt32 * i).toInt64 &&& 63)).toInt32, .int (y165 + i), .ref 545], h2, n, 0, 0)) (by with_unfolding_all rfl) ?_
      have e169 : (y165 + i).toInt = ab_ri h2 542 2 + (j : Int) := mc_add e166 hi (by omega) (by omega)
      have e170 : ((Int8.ofInt 8).toInt32 * i).toInt = 8 * (j : Int) := mc_mul (by decide) hi (by omega) (by omega)
      have hz : (w >>> (((Int8.ofInt 8).toInt32 * i).toInt64 &&& 63)).toInt32 &&& 255 = lt_c w j := by rw [lt_nI hi (by omega)]; exact lt_cB w j (by omega)
      have h8 := lt_8 hz h126
      generalize (w >>> (((Int8.ofInt 8).toInt32 * i).toInt64 &&& 63)).toInt32 = zz at hz h8 ⊢
      show mc_R _ _ _ _ _ (127, [(0, .ref 542), (1, .long w), (3, .int m), (5, .int i)], [.int zz, .int (y165 + i), .ref 545], h2, n, 0, 0)
      refine mc_cx hmi 1 (F' := (128, [(0, .ref 542), (1, .long w), (3, .int m), (5, .int i)], [.int zz.toInt8.toInt32, .int (y165 + i), .ref 545], h2, n, 0, 0)) (by with_unfolding_all rfl) ?_
      rw [h8]
      have hv : (lt_c w j).toInt = pg_lb w j := rfl
      show mc_R _ _ _ _ _ (128, [(0, .ref 542), (1, .long w), (3, .int m), (5, .int i)], [.int (lt_c w j), .int (y165 + i), .ref 545], h2, n, 0, 0)
      refine mc_bast hmi H2 (k := 545) (i := (ab_ri h2 542 2 + (j : Int))) (pc' := 129) rfl rfl rfl e169 (by omega) (by omega) (by rw [hv]; omega) (by rw [hv]; omega) rfl (fun h171 H172 w173 => ?_)
      refine mc_cx hmi 2 (F' := (102, [(5, .int (i + Int32.ofInt 1)), (0, .ref 542), (1, .long w), (3, .int m)], [], h171, n, 0, 0)) (by with_unfolding_all rfl) ?_
      have e174 : (i + Int32.ofInt 1).toInt = (j : Int) + 1 := mc_add hi (by decide) (by omega) (by omega)
      refine mc_lvs (lv' := [(0, .ref 542), (1, .long w), (3, .int m), (5, .int (i + Int32.ofInt 1))]) (by simp) ?_
      refine ih (j + 1) h171 (i + Int32.ofInt 1) (by omega) (by rw [e174]; omega) H172 (fun t ht => ?_) (fun k' i' p1 => ?_)
      · rw [w173]
        by_cases u : t = j
        · rw [if_pos ⟨rfl, by rw [u]; omega⟩, u]
        · rw [if_neg (fun q => by have := q.2; omega)]; exact hct t (by omega)
      · rw [w173, if_neg (fun q => by have := p1 q.1; have := q.2; omega)]; exact hf k' i' p1
set_option maxRecDepth 100000 in
theorem lm_1 {l : Launch} {G : ax_T} {d : Nat} {h : ax_H} {n : Nat} (H : mc_HW h n) (w : Int64) : ∀ (c j : Nat) (m b i : Int32), j + c = 8 → i.toInt = (j : Int) → m.toInt = (pg_ln w j : Int) → (b.toInt = 1 ∧ pg_ln w j < j ∨ b.toInt = 0 ∧ pg_ln w j = j) → pg_lok w j → mc_R l G mt_X11_letters d (le_Q h n w) (8, [(0, .ref 542), (1, .long w), (3, .int m), (4, .int b), (5, .int i)], [], h, n, 0, 0) := by
  have hmi : mt_X11_letters ∈ mt_prog := List.mem_of_getElem? mi_X11_letters
  have hlen : 0 ≤ ab_ri h 542 2 ∧ ab_ri h 542 2 ≤ 80 := mc_frng H (k := 542) (j := 2) (ci := 11) rfl rfl
  have hl8 := pg_ln_le w 8
  intro c
  induction c with
  | zero =>
    intro j m b i hj hi hm hb hok
    have hl := pg_ln_le w j
    refine mc_cx hmi 2 (F' := (12, [(0, .ref 542), (1, .long w), (3, .int m), (4, .int b), (5, .int i)], [.int (Int8.ofInt 8).toInt32, .int i], h, n, 0, 0)) (by with_unfolding_all rfl) ?_
    refine mc_ci hmi (c := .ge) (tg := 85) (pc' := 15) rfl rfl rfl hi (by decide) (fun (q175 : 8 ≤ (j : Int)) => ?_) (fun (q175 : (j : Int) < 8) => ?_)
    · obtain rfl : j = 8 := by omega
      refine mc_cx hmi 1 (F' := (86, [(0, .ref 542), (1, .long w), (3, .int m), (4, .int b), (5, .int i)], [.ref 542], h, n, 0, 0)) (by with_unfolding_all rfl) ?_
      refine mc_geti hmi H (k := 542) (j := 2) (pc' := 89) rfl rfl rfl rfl (fun y176 (e177 : y176.toInt = ab_ri h 542 2) r178 r179 => ?_)
      rw [e177] at r178 r179
      refine mc_cx hmi 3 (F' := (93, [(0, .ref 542), (1, .long w), (3, .int m), (4, .int b), (5, .int i)], [.int (Int8.ofInt 80).toInt32, .int (y176 + m)], h, n, 0, 0)) (by with_unfolding_all rfl) ?_
      have e180 : (y176 + m).toInt = ab_ri h 542 2 + (pg_ln w 8 : Int) := mc_add e177 hm (by omega) (by omega)
      refine mc_ci hmi (c := .le) (tg := 99) (pc' := 96) rfl rfl rfl e180 (by decide) (fun (q181 : (ab_ri h 542 2 + (pg_ln w 8 : Int)) ≤ 80) => ?_) (fun (q181 : 80 < (ab_ri h 542 2 + (pg_ln w 8 : Int))) => ?_)
      · refine mc_cx hmi 2 (F' := (102, [(5, .int (Int32.ofInt 0)), (0, .ref 542), (1, .long w), (3, .int m), (4, .int b)], [], h, n, 0, 0)) (by with_unfolding_all rfl) ?_
        refine mc_lvs (lv' := [(0, .ref 542), (1, .long w), (3, .int m), (5, .int (Int32.ofInt 0))]) (by simp) ?_
        exact lm_2 H w hok m hm (by omega) (pg_ln w 8) 0 h _ (Nat.zero_add _) rfl H (fun t ht => absurd ht (Nat.not_lt_zero t)) (fun _ _ _ => rfl)
      · refine mc_cx hmi 1 (F' := (98, [(0, .ref 542), (1, .long w), (3, .int m), (4, .int b), (5, .int i)], [.int (Int8.ofInt (-104)).toInt32], h, n, 0, 0)) (by with_unfolding_all rfl) ?_
        exact mc_ret hmi rfl rfl rfl ⟨rfl, H, _, rfl, Or.inr (Or.inl ⟨hok, by omega, by decide, rfl⟩)⟩
    · exact absurd q175 (by omega)
  | succ c ih =>
    intro j m b i hj hi hm hb hok
    have hl := pg_ln_le w j
    refine mc_cx hmi 2 (F' := (12, [(0, .ref 542), (1, .long w), (3, .int m), (4, .int b), (5, .int i)], [.int (Int8.ofInt 8).toInt32, .int i], h, n, 0, 0)) (by with_unfolding_all rfl) ?_
    refine mc_ci hmi (c := .ge) (tg := 85) (pc' := 15) rfl rfl rfl hi (by decide) (fun (q182 : 8 ≤ (j : Int)) => ?_) (fun (q182 : (j : Int) < 8) => ?_)
    · exact absurd q182 (by omega)
    · have hlb := pg_lb_r w j
      refine mc_cx hmi 8 (F' := (27, [(0, .ref 542), (1, .long w), (3, .int m), (4, .int b), (5, .int i)], [.int ((w >>> (((Int8.ofInt 8).toInt32 * i).toInt64 &&& 63)) &&& (Int64.ofInt 255)).toInt32], h, n, 0, 0)) (by with_unfolding_all rfl) ?_
      have e183 : ((Int8.ofInt 8).toInt32 * i).toInt = 8 * (j : Int) := mc_mul (by decide) hi (by omega) (by omega)
      have hz : ((w >>> (((Int8.ofInt 8).toInt32 * i).toInt64 &&& 63)) &&& (Int64.ofInt 255)).toInt32 = lt_c w j := by rw [lt_nI hi (by omega)]; exact lt_cM w j (by omega)
      generalize ((w >>> (((Int8.ofInt 8).toInt32 * i).toInt64 &&& 63)) &&& (Int64.ofInt 255)).toInt32 = zz at hz ⊢
      have hv : zz.toInt = pg_lb w j := congrArg Int32.toInt hz
      show mc_R _ _ _ _ _ (27, [(0, .ref 542), (1, .long w), (3, .int m), (4, .int b), (5, .int i)], [.int zz], h, n, 0, 0)
      have bad : ¬ pg_lok w (j + 1) → mc_R l G mt_X11_letters d (le_Q h n w) (46, [(0, .ref 542), (1, .long w), (3, .int m), (4, .int b), (5, .int i), (6, .int zz)], [], h, n, 0, 0) := by
        intro hbad
        refine mc_cx hmi 1 (F' := (48, [(0, .ref 542), (1, .long w), (3, .int m), (4, .int b), (5, .int i), (6, .int zz)], [.int (Int8.ofInt (-102)).toInt32], h, n, 0, 0)) (by with_unfolding_all rfl) ?_
        exact mc_ret hmi rfl rfl rfl ⟨rfl, H, _, rfl, Or.inl ⟨fun u => hbad (lok_le (7 - j) (j + 1) (by rw [show j + 1 + (7 - j) = 8 by omega]; exact u)), by decide, rfl⟩⟩
      have k64 : pg_lok w (j + 1) → ∀ b2 : Int32, (b2.toInt = 1 ∧ pg_ln w (j + 1) < j + 1 ∨ b2.toInt = 0 ∧ pg_ln w (j + 1) = j + 1) → mc_R l G mt_X11_letters d (le_Q h n w) (64, [(0, .ref 542), (1, .long w), (3, .int m), (4, .int b), (5, .int i), (6, .int zz)], [.int b2], h, n, 0, 0) := by
        intro hg b2 hb2
        refine mc_cx hmi 3 (F' := (69, [(4, .int b2), (0, .ref 542), (1, .long w), (3, .int m), (5, .int i), (6, .int zz)], [.int zz, .int m], h, n, 0, 0)) (by with_unfolding_all rfl) ?_
        refine mc_cz hmi (c := .ne) (tg := 76) (pc' := 72) rfl rfl rfl hv (fun (q184 : pg_lb w j ≠ 0) => ?_) (fun (q184 : pg_lb w j = 0) => ?_)
        · have hn : pg_ln w (j + 1) = pg_ln w j + 1 := by rw [pg_ln, if_neg q184]
          refine mc_cx hmi 5 (F' := (8, [(5, .int (i + Int32.ofInt 1)), (3, .int (m + (Int32.ofInt 1))), (4, .int b2), (0, .ref 542), (1, .long w), (6, .int zz)], [], h, n, 0, 0)) (by with_unfolding_all rfl) ?_
          have e185 : (m + (Int32.ofInt 1)).toInt = (pg_ln w j : Int) + 1 := mc_add hm (by decide) (by omega) (by omega)
          have e186 : (i + Int32.ofInt 1).toInt = (j : Int) + 1 := mc_add hi (by decide) (by omega) (by omega)
          refine mc_lvs (lv' := [(0, .ref 542), (1, .long w), (3, .int (m + (Int32.ofInt 1))), (4, .int b2), (5, .int (i + Int32.ofInt 1))]) (by simp) ?_
          exact ih (j + 1) (m + (Int32.ofInt 1)) b2 (i + Int32.ofInt 1) (by omega) (by rw [e186]; omega) (by rw [e185, hn]; omega) hb2 hg
        · have hn : pg_ln w (j + 1) = pg_ln w j := by rw [pg_ln, if_pos q184] <;> rfl
          refine mc_cx hmi 6 (F' := (8, [(5, .int (i + Int32.ofInt 1)), (3, .int (m + (Int32.ofInt 0))), (4, .int b2), (0, .ref 542), (1, .long w), (6, .int zz)], [], h, n, 0, 0)) (by with_unfolding_all rfl) ?_
          have e187 : (m + (Int32.ofInt 0)).toInt = (pg_ln w j : Int) + 0 := mc_add hm (by decide) (by omega) (by omega)
          have e188 : (i + Int32.ofInt 1).toInt = (j : Int) + 1 := mc_add hi (by decide) (by omega) (by omega)
          refine mc_lvs (lv' := [(0, .ref 542), (1, .long w), (3, .int (m + (Int32.ofInt 0))), (4, .int b2), (5, .int (i + Int32.ofInt 1))]) (by simp) ?_
          exact ih (j + 1) (m + (Int32.ofInt 0)) b2 (i + Int32.ofInt 1) (by omega) (by rw [e188]; omega) (by rw [e187, hn]; omega) hb2 hg
      have k49 : pg_lok w (j + 1) → mc_R l G mt_X11_letters d (le_Q h n w) (49, [(0, .ref 542), (1, .long w), (3, .int m), (4, .int b), (5, .int i), (6, .int zz)], [], h, n, 0, 0) := by
        intro hg
        refine mc_cx hmi 1 (F' := (51, [(0, .ref 542), (1, .long w), (3, .int m), (4, .int b), (5, .int i), (6, .int zz)], [.int b], h, n, 0, 0)) (by with_unfolding_all rfl) ?_
        refine mc_cz hmi (c := .ne) (tg := 59) (pc' := 54) rfl rfl rfl rfl (fun (q189 : b.toInt ≠ 0) => ?_) (fun (q189 : b.toInt = 0) => ?_)
        · refine mc_cx hmi 2 (F' := (64, [(0, .ref 542), (1, .long w), (3, .int m), (4, .int b), (5, .int i), (6, .int zz)], [.int (Int32.ofInt 1)], h, n, 0, 0)) (by with_unfolding_all rfl) ?_
          have hlt : pg_ln w (j + 1) < j + 1 := by
            have hg2 := hg.2.2
            rw [pg_ln]
            split <;> omega
          exact k64 hg _ (Or.inl ⟨by decide, hlt⟩)
        · refine mc_cx hmi 1 (F' := (56, [(0, .ref 542), (1, .long w), (3, .int m), (4, .int b), (5, .int i), (6, .int zz)], [.int zz], h, n, 0, 0)) (by with_unfolding_all rfl) ?_
          refine mc_cz hmi (c := .ne) (tg := 63) (pc' := 59) rfl rfl rfl hv (fun (q190 : pg_lb w j ≠ 0) => ?_) (fun (q190 : pg_lb w j = 0) => ?_)
          · refine mc_cx hmi 1 (F' := (64, [(0, .ref 542), (1, .long w), (3, .int m), (4, .int b), (5, .int i), (6, .int zz)], [.int (Int32.ofInt 0)], h, n, 0, 0)) (by with_unfolding_all rfl) ?_
            exact k64 hg _ (Or.inr ⟨by decide, by rw [pg_ln, if_neg q190]; omega⟩)
          · refine mc_cx hmi 2 (F' := (64, [(0, .ref 542), (1, .long w), (3, .int m), (4, .int b), (5, .int i), (6, .int zz)], [.int (Int32.ofInt 1)], h, n, 0, 0)) (by with_unfolding_all rfl) ?_
            exact k64 hg _ (Or.inl ⟨by decide, by rw [pg_ln, if_pos q190]; omega⟩)
      refine mc_cx hmi 3 (F' := (33, [(6, .int zz), (0, .ref 542), (1, .long w), (3, .int m), (4, .int b), (5, .int i)], [.int (Int8.ofInt 126).toInt32, .int zz], h, n, 0, 0)) (by with_unfolding_all rfl) ?_
      refine mc_ci hmi (c := .gt) (tg := 46) (pc' := 36) rfl rfl rfl hv (by decide) (fun (q191 : 126 < pg_lb w j) => ?_) (fun (q191 : pg_lb w j ≤ 126) => ?_)
      · refine mc_lvs (lv' := [(0, .ref 542), (1, .long w), (3, .int m), (4, .int b), (5, .int i), (6, .int zz)]) (by simp) ?_
        exact bad (fun u => by have := u.2.1; omega)
      · refine mc_cx hmi 1 (F' := (38, [(6, .int zz), (0, .ref 542), (1, .long w), (3, .int m), (4, .int b), (5, .int i)], [.int b], h, n, 0, 0)) (by with_unfolding_all rfl) ?_
        refine mc_cz hmi (c := .eq) (tg := 49) (pc' := 41) rfl rfl rfl rfl (fun (q192 : b.toInt = 0) => ?_) (fun (q192 : b.toInt ≠ 0) => ?_)
        · refine mc_lvs (lv' := [(0, .ref 542), (1, .long w), (3, .int m), (4, .int b), (5, .int i), (6, .int zz)]) (by simp) ?_
          exact k49 ⟨hok, by omega, Or.inr (by omega)⟩
        · refine mc_cx hmi 1 (F' := (43, [(6, .int zz), (0, .ref 542), (1, .long w), (3, .int m), (4, .int b), (5, .int i)], [.int zz], h, n, 0, 0)) (by with_unfolding_all rfl) ?_
          refine mc_cz hmi (c := .eq) (tg := 49) (pc' := 46) rfl rfl rfl hv (fun (q193 : pg_lb w j = 0) => ?_) (fun (q193 : pg_lb w j ≠ 0) => ?_)
          · refine mc_lvs (lv' := [(0, .ref 542), (1, .long w), (3, .int m), (4, .int b), (5, .int i), (6, .int zz)]) (by simp) ?_
            exact k49 ⟨hok, by omega, Or.inl q193⟩
          · refine mc_lvs (lv' := [(0, .ref 542), (1, .long w), (3, .int m), (4, .int b), (5, .int i), (6, .int zz)]) (by simp) ?_
            exact bad (fun u => by have := u.2.2; omega)
set_option maxRecDepth 100000 in
theorem le_X11 {l : Launch} {G : ax_T} {d : Nat} {h : ax_H} {n : Nat} (hd : 1 ≤ d) (H : mc_HW h n) (w : Int64) : mc_M l G d mt_X11_letters [.ref 542, .long w] h n (le_Q h n w) := by
  obtain ⟨d, rfl⟩ : ∃ e, d = e + 1 := ⟨d - 1, by omega⟩
  have hmi : mt_X11_letters ∈ mt_prog := List.mem_of_getElem? mi_X11_letters
  refine mc_to hmi rfl ?_
  show mc_R _ _ _ _ _ (0, [(0, .ref 542), (1, .long w)], [], h, n, 0, 0)
  refine mc_cx hmi 6 (F' := (8, [(5, .int (Int32.ofInt 0)), (4, .int (Int32.ofInt 0)), (3, .int (Int32.ofInt 0)), (0, .ref 542), (1, .long w)], [], h, n, 0, 0)) (by with_unfolding_all rfl) ?_
  refine mc_lvs (lv' := [(0, .ref 542), (1, .long w), (3, .int (Int32.ofInt 0)), (4, .int (Int32.ofInt 0)), (5, .int (Int32.ofInt 0))]) (by simp) ?_
  exact lm_1 H w 8 0 _ _ _ rfl rfl rfl (Or.inr ⟨by decide, rfl⟩) trivial
