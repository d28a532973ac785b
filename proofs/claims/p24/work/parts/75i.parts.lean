/-! ===== parts: doubles, and what is taken from the last line up ===== -/
theorem pt_iff {n b k : Nat} (hb : 0 < b) : k < tw_hv (n / b) ↔ b * 2 ^ k ≤ n := by
  rw [tw_hv_iff, Nat.div_div_eq_div_mul, Nat.div_pos_iff]
  exact ⟨fun q => q.2, fun q => ⟨Nat.mul_pos hb (Nat.pos_of_ne_zero (by simp)), q⟩⟩
theorem pt_le {n b : Nat} (hn : n < 16384) : tw_hv (n / b) ≤ 14 := tw_hv_le (Nat.lt_of_le_of_lt (Nat.div_le_self _ _) hn)
theorem pt_bd {b i : Nat} (hb : b < 16384) (hi : i ≤ 14) : b * 2 ^ i < 2 ^ 31 := by
  have h1 : 2 ^ i ≤ 2 ^ 14 := Nat.pow_le_pow_right (by decide) hi
  calc b * 2 ^ i ≤ 16384 * 2 ^ 14 := Nat.mul_le_mul (by omega) h1
    _ < 2 ^ 31 := by decide
theorem pt_shl {b i : Nat} (hb : b < 16384) (hi : i ≤ 14) : nI b <<< (nI i &&& 31) = nI (b * 2 ^ i) := pk_shlN _ i (tw_s i (by omega)) (Nat.lt_trans (pt_bd hb hi) (by decide))
theorem pt_or (a b : Nat) : nI a ||| nI b = nI (a ||| b) := by
  apply Int32.toBitVec_inj.1
  show BitVec.ofNat 32 a ||| BitVec.ofNat 32 b = BitVec.ofNat 32 (a ||| b)
  apply BitVec.eq_of_getLsbD_eq
  intro i hi
  simp [hi]
/-- j lines are left to be looked at: what is left, what was taken -/
def pt_gq (b : Nat) : Nat → Nat → Nat → Nat × Nat
  | 0, left, bits => (left, bits)
  | j + 1, left, bits => if b * 2 ^ j ≤ left then pt_gq b j (left - b * 2 ^ j) (bits + 2 ^ j) else pt_gq b j left bits
theorem pt_gq_sum {b n : Nat} : ∀ (j left bits : Nat), left + bits * b = n → (pt_gq b j left bits).1 + (pt_gq b j left bits).2 * b = n
  | 0, left, bits, h => h
  | j + 1, left, bits, h => by
    unfold pt_gq
    by_cases c : b * 2 ^ j ≤ left
    · rw [if_pos c]
      refine pt_gq_sum j _ _ ?_
      rw [Nat.add_mul, Nat.mul_comm (2 ^ j) b]
      omega
    · rw [if_neg c]; exact pt_gq_sum j _ _ h
section PTD
variable {l : Launch} {G : ax_T} {h : ax_H} {N d : Nat}
theorem pt_doublings (n b : Nat) (hn : n < 16384) (hb0 : 0 < b) (hb : b < 16384) : ax_Met l G yX10_doublings cX10_doublings 3 (some .int) (d + 1) [.int (nI n), .int (nI b)] (ax_hget h) N (some (.int (nI (tw_hv (n / b))))) (ax_hget h) N 0 0 := by
  refine ax_met_of (by decide +kernel) (Nat.le_of_ble_eq_true rfl) ?_
  intro p e s m args below meth c M hnm hrt
  have htab : ∀ ch ∈ ut_X10_doublings.2.2.2.2.2.2.2.2, ∀ en ∈ ch, ax_Ok mu_prog RX10 "doublings" cX10_doublings en.1 en.2.1 en.2.2.1 en.2.2.2.1 := vk_X10_doublings.2.2.2
  have hrm : 1 ≤ (ax_rm (d + 1) 0 0).frames ∧ 40 ≤ (ax_rm (d + 1) 0 0).locals := ⟨Nat.le_add_left 1 d, by show 40 ≤ 40 * (d + 1); omega⟩
  have hle := pt_le (b := b) hn
  have e20 : (Int8.ofInt 20).toInt32 = nI 20 := by decide
  have loop : ∀ (f i : Nat), i ≤ tw_hv (n / b) → tw_hv (n / b) < i + f → ax_W G p l e (ax_rm (d + 1) 0 0) s m args below meth c (MQ below (ax_Qc G (some (.int (nI (tw_hv (n / b))))) (ax_hget h) N) args s 0 0 (fun q => G.2.1 ≤ q)) 3 2 [(2, .int (nI i)), (0, .int (nI n)), (1, .int (nI b))] [] (ax_hget h) N 0 0 := by
    intro f
    induction f with
    | zero => intro i h1 h2; omega
    | succ f ih =>
      intro i h1 h2
      iterate 2 refine ax_one M hnm htab hrm rfl rfl (Nat.zero_le _) (Nat.zero_le _) ?_
      refine ax_icmp2 M (tgt := 21) dd_X10_doublings_5 (by decide) (fun c1 => ?_) (fun c1 => ?_)
      · have c1' : nI 20 ≤ nI i := e20 ▸ (show (Int8.ofInt 20).toInt32 ≤ nI i from c1)
        rw [nI_leI (by decide) (by omega)] at c1'
        omega
      · iterate 4 refine ax_one M hnm htab hrm rfl rfl (Nat.zero_le _) (Nat.zero_le _) ?_
        have esh := pt_shl (b := b) (i := i) hb (by omega)
        have hbd := pt_bd (b := b) (i := i) hb (by omega)
        refine ax_icmp2 M (tgt := 21) dd_X10_doublings_12 (by decide) (fun c2 => ?_) (fun c2 => ?_)
        · have c2' : nI n < nI (b * 2 ^ i) := esh ▸ (show nI n < nI b <<< (nI i &&& 31) from c2)
          rw [nI_ltI (by omega) hbd] at c2'
          have hi : i = tw_hv (n / b) := by
            rcases Nat.lt_or_ge i (tw_hv (n / b)) with q | q
            · have := (pt_iff hb0).mp q; omega
            · omega
          iterate 1 refine ax_one M hnm htab hrm rfl rfl (Nat.zero_le _) (Nat.zero_le _) ?_
          rw [← hi]
          exact ax_ret_ok M hrt dd_X10_doublings_22 (Or.inr rfl) rfl rfl (Nat.le_refl 0) (Nat.le_refl 0)
        · have c2' : ¬ nI n < nI (b * 2 ^ i) := fun q => c2 (show nI n < nI b <<< (nI i &&& 31) by rw [esh]; exact q)
          rw [nI_ltI (by omega) hbd] at c2'
          have hi : i < tw_hv (n / b) := (pt_iff hb0).mpr (by omega)
          iterate 2 refine ax_one M hnm htab hrm rfl rfl (Nat.zero_le _) (Nat.zero_le _) ?_
          have := ih (i + 1) hi (by omega)
          rw [← (show nI i + Int32.ofInt 1 = nI (i + 1) from nI_1 i)] at this
          exact this
  iterate 2 refine ax_one M hnm htab hrm rfl rfl (Nat.zero_le _) (Nat.zero_le _) ?_
  exact loop (tw_hv (n / b) + 1) 0 (Nat.zero_le _) (by omega)
/-- taking: one step of both -/
theorem pt_bits {q j : Nat} : nI (2 ^ (j + 1) * q) ||| nI (2 ^ j) = nI (2 ^ (j + 1) * q + 2 ^ j) := by
  rw [pt_or, ← Nat.two_pow_add_eq_or_of_lt (Nat.pow_lt_pow_right (by decide) (Nat.lt_succ_self j))]
theorem pt_lines (n b : Nat) (hn : n < 16384) (hb0 : 0 < b) (hb : b < 16384) : ax_Met l G yX10_linesTaken cX10_linesTaken 5 (some .int) (d + 2) [.int (nI n), .int (nI b)] (ax_hget h) N (some (.int (nI (pt_gq b (tw_hv (n / b)) n 0).2))) (ax_hget h) N 0 0 := by
  refine ax_met_of (by decide +kernel) (Nat.le_of_ble_eq_true rfl) ?_
  intro p e s m args below meth c M hnm hrt
  have htab : ∀ ch ∈ ut_X10_linesTaken.2.2.2.2.2.2.2.2, ∀ en ∈ ch, ax_Ok mu_prog RX10 "linesTaken" cX10_linesTaken en.1 en.2.1 en.2.2.1 en.2.2.2.1 := vk_X10_linesTaken.2.2.2
  have hrm : 1 ≤ (ax_rm (d + 2) 0 0).frames ∧ 40 ≤ (ax_rm (d + 2) 0 0).locals := ⟨Nat.le_add_left 1 (d + 1), by show 40 ≤ 40 * (d + 2); omega⟩
  have hle := pt_le (b := b) hn
  have loop : ∀ (j left q : Nat), j ≤ 14 → left ≤ n → (pt_gq b j left (2 ^ j * q)).2 = (pt_gq b (tw_hv (n / b)) n 0).2 → ax_W G p l e (ax_rm (d + 2) 0 0) s m args below meth c (MQ below (ax_Qc G (some (.int (nI (pt_gq b (tw_hv (n / b)) n 0).2))) (ax_hget h) N) args s 0 0 (fun q => G.2.1 ≤ q)) 5 13 [(4, .int (nI j - 1)), (3, .int (nI (2 ^ j * q))), (2, .int (nI left)), (0, .int (nI n)), (1, .int (nI b))] [] (ax_hget h) N 0 0 := by
    intro j
    induction j with
    | zero =>
      intro left q hj hl hg
      iterate 1 refine ax_one M hnm htab hrm rfl rfl (Nat.zero_le _) (Nat.zero_le _) ?_
      refine ax_if2 M (tgt := 46) dd_X10_linesTaken_15 (by decide) (fun c1 => ?_) (fun c1 => absurd (show nI 0 - 1 < 0 by decide) c1)
      iterate 1 refine ax_one M hnm htab hrm rfl rfl (Nat.zero_le _) (Nat.zero_le _) ?_
      rw [← hg]
      exact ax_ret_ok M hrt dd_X10_linesTaken_47 (Or.inr rfl) rfl rfl (Nat.le_refl 0) (Nat.le_refl 0)
    | succ j ih =>
      intro left q hj hl hg
      have ej : nI (j + 1) - 1 = nI j := nI_pred j
      rw [ej]
      have esh := pt_shl (b := b) (i := j) hb (by omega)
      have hbd := pt_bd (b := b) (i := j) hb (by omega)
      iterate 1 refine ax_one M hnm htab hrm rfl rfl (Nat.zero_le _) (Nat.zero_le _) ?_
      refine ax_if2 M (tgt := 46) dd_X10_linesTaken_15 (by decide) (fun c1 => absurd c1 (nI_pos (by omega))) (fun c1 => ?_)
      iterate 4 refine ax_one M hnm htab hrm rfl rfl (Nat.zero_le _) (Nat.zero_le _) ?_
      have edec : nI j + Int32.ofInt (-1) = nI j - 1 := by rw [show Int32.ofInt (-1) = (-1 : Int32) from rfl, Int32.sub_eq_add_neg]
      have e2q : 2 ^ (j + 1) * q = 2 ^ j * (2 * q) := by rw [Nat.pow_succ, Nat.mul_assoc]
      refine ax_icmp2 M (tgt := 40) dd_X10_linesTaken_23 (by decide) (fun c2 => ?_) (fun c2 => ?_)
      · have c2' : nI left < nI (b * 2 ^ j) := esh ▸ (show nI left < nI b <<< (nI j &&& 31) from c2)
        rw [nI_ltI (by omega) hbd] at c2'
        rw [pt_gq, if_neg (by omega)] at hg
        iterate 2 refine ax_one M hnm htab hrm rfl rfl (Nat.zero_le _) (Nat.zero_le _) ?_
        have := ih left (2 * q) (by omega) hl (by rw [← e2q]; exact hg)
        rw [← e2q, ← edec] at this
        exact this
      · have c2' : ¬ nI left < nI (b * 2 ^ j) := fun q => c2 (show nI left < nI b <<< (nI j &&& 31) by rw [esh]; exact q)
        rw [nI_ltI (by omega) hbd] at c2'
        rw [pt_gq, if_pos (by omega)] at hg
        have e1 : nI left - (nI b <<< (nI j &&& 31)) = nI (left - b * 2 ^ j) := by rw [esh]; exact pk_sub (by omega)
        have e3 : nI 1 <<< (nI j &&& 31) = nI (2 ^ j) := by rw [pt_shl (b := 1) (i := j) (by decide) (by omega), Nat.one_mul]
        have e4 : nI (2 ^ (j + 1) * q) ||| (Int32.ofInt 1 <<< (nI j &&& 31)) = nI (2 ^ j * (2 * q + 1)) := by
          rw [show Int32.ofInt 1 = nI 1 from rfl, e3, pt_bits, e2q, Nat.mul_add, Nat.mul_one]
        iterate 14 refine ax_one M hnm htab hrm rfl rfl (Nat.zero_le _) (Nat.zero_le _) ?_
        have := ih (left - b * 2 ^ j) (2 * q + 1) (by omega) (by omega) (by rw [Nat.mul_add, Nat.mul_one, ← e2q]; exact hg)
        rw [← e4, ← e1, ← edec] at this
        exact this
  iterate 6 refine ax_one M hnm htab hrm rfl rfl (Nat.zero_le _) (Nat.zero_le _) ?_
  refine ax_inv_ok mu_ok M (ax_ok_at htab (pc := 6) rfl) (q := (ut_X10_doublings, [.int (nI n), .int (nI b)], [])) rfl (o := (some (.int (nI (tw_hv (n / b)))), h, N)) (fun _ => pt_doublings (d := d) n b hn hb0 hb) (Nat.le_refl _) (Nat.le_refl _) (Nat.le_refl _) (Nat.le_refl _) ?_ (fun q => by cases q)
  iterate 3 refine ax_one M hnm htab hrm rfl rfl (Nat.zero_le _) (Nat.zero_le _) ?_
  have := loop (tw_hv (n / b)) n 0 hle (Nat.le_refl n) (by rw [Nat.mul_zero])
  rw [Nat.mul_zero] at this
  exact this
end PTD
