/-! ===== letters: the class and the reference answer alike ===== -/
def lt_R (w : Int64) : Int32 := if lt_ok w 8 = true then nI (lt_num w 8) else -102
def lt_k (w : Int64) : Nat := if lt_ok w 8 = true then lt_num w 8 else 0
section LTX
variable {l : Launch} {G : ax_T} {N d : Nat}
theorem lt_letters (w : Int64) : ax_Met l G yX10_letters cX10_letters 4 (some .int) (d + 3) [.ref 0, .long w] (ax_hget lw_hm) N (some (.int (lt_R w))) (ax_hget (lt_h (lt_k w) (lt_l w (lt_k w)))) N 0 0 := by
  refine ax_met_of (by decide +kernel) (Nat.le_of_ble_eq_true rfl) ?_
  intro p e s m args below meth c M hnm hrt
  have htab : ∀ ch ∈ ut_X10_letters.2.2.2.2.2.2.2.2, ∀ en ∈ ch, ax_Ok mu_prog RX10 "letters" cX10_letters en.1 en.2.1 en.2.2.1 en.2.2.2.1 := vk_X10_letters.2.2.2
  have hrm : 1 ≤ (ax_rm (d + 3) 0 0).frames ∧ 40 ≤ (ax_rm (d + 3) 0 0).locals := ⟨Nat.le_add_left 1 (d + 2), by show 40 ≤ 40 * (d + 3); omega⟩
  have e80 : (Int8.ofInt 80).toInt32 = nI 80 := by decide
  have hn8 := lt_num_le w 8
  iterate 1 refine ax_one M hnm htab hrm rfl rfl (Nat.zero_le _) (Nat.zero_le _) ?_
  refine ax_inv_ok mu_ok M (ax_ok_at htab (pc := 1) rfl) (q := (ut_X4_lettersIn, [.long w], [])) rfl (o := (some (.int (if lt_ok w 8 = true then nI (lt_num w 8) else -1)), lw_hm, N)) (fun _ => lt_lettersIn (d := d) w) (Nat.le_refl _) (Nat.le_refl _) (Nat.le_refl _) (Nat.le_refl _) ?_ (fun q => by cases q)
  iterate 2 refine ax_one M hnm htab hrm rfl rfl (Nat.zero_le _) (Nat.zero_le _) ?_
  rcases Classical.em (lt_ok w 8 = true) with ho | ho
  · have hR : lt_R w = nI (lt_num w 8) := if_pos ho
    have hK : lt_k w = lt_num w 8 := if_pos ho
    rw [if_pos ho, hR, hK]
    refine ax_if2 M (tgt := 12) dd_X10_letters_6 (by decide) (fun c1 => ?_) (fun c1 => absurd (show (0 : Int32) ≤ nI (lt_num w 8) from nI_pos' (by omega)) c1)
    iterate 6 refine ax_one M hnm htab hrm rfl rfl (Nat.zero_le _) (Nat.zero_le _) ?_
    have hz : (0 : Int32) + nI (lt_num w 8) = nI (lt_num w 8) := Int32.zero_add _
    refine ax_icmp2 M (tgt := 29) dd_X10_letters_23 (by decide) (fun c2 => ?_) (fun c2 => absurd (show (0 : Int32) + nI (lt_num w 8) ≤ (Int8.ofInt 80).toInt32 by rw [hz, e80]; exact nI_le (by omega) (by decide)) c2)
    iterate 4 refine ax_one M hnm htab hrm rfl rfl (Nat.zero_le _) (Nat.zero_le _) ?_
    refine ax_inv_ok mu_ok M (ax_ok_at htab (pc := 35) rfl) (q := (ut_X4_append, [.ref 1, .long w, .int (nI (lt_num w 8))], [])) rfl (o := (none, lt_h (lt_num w 8) (lt_l w (lt_num w 8)), N)) (fun _ => lt_append (d := d) w (lt_num w 8) hn8) (Nat.le_refl _) (Nat.le_refl _) (Nat.le_refl _) (Nat.le_refl _) ?_ (fun _ => rfl)
    iterate 3 refine ax_one M hnm htab hrm rfl rfl (Nat.zero_le _) (Nat.zero_le _) ?_
    exact ax_ret_ok M hrt dd_X10_letters_45 (Or.inr rfl) rfl rfl (Nat.le_refl 0) (Nat.le_refl 0)
  · have hR : lt_R w = -102 := if_neg ho
    have hK : lt_k w = 0 := if_neg ho
    rw [if_neg ho, hR, hK]
    refine ax_if2 M (tgt := 12) dd_X10_letters_6 (by decide) (fun c1 => absurd (show (0 : Int32) ≤ -1 from c1) (by decide)) (fun c1 => ?_)
    iterate 1 refine ax_one M hnm htab hrm rfl rfl (Nat.zero_le _) (Nat.zero_le _) ?_
    exact ax_ret_ok M hrt dd_X10_letters_11 (Or.inr rfl) rfl rfl (Nat.le_refl 0) (Nat.le_refl 0)
end LTX
theorem lt_b8 : ∀ j, j < 8 → (255#64).getLsbD j = (255#32).getLsbD j := by decide
theorem lt_b9 {j : Nat} (h : 8 ≤ j) : (255#64).getLsbD j = false ∧ (255#32).getLsbD j = false := by
  have h1 : (255 : Nat).testBit j = false := Nat.testBit_lt_two_pow (Nat.lt_of_lt_of_le (by decide) (Nat.pow_le_pow_right (by decide) h))
  constructor
  · rw [BitVec.getLsbD_ofNat, h1]; simp
  · rw [BitVec.getLsbD_ofNat, h1]; simp
theorem lt_bv (x : BitVec 64) (k : Nat) (hk : k ≤ 56) : ((x.sshiftRight k) &&& 255#64).setWidth 32 = ((x >>> k).setWidth 32) &&& 255#32 := by
  apply BitVec.eq_of_getLsbD_eq
  intro j hj
  simp only [BitVec.getLsbD_setWidth, BitVec.getLsbD_and, BitVec.getLsbD_sshiftRight, BitVec.getLsbD_ushiftRight, hj, decide_true, Bool.true_and]
  rcases Nat.lt_or_ge j 8 with h8 | h8
  · have h1 : ¬ 64 ≤ j := by omega
    have h2 : k + j < 64 := by omega
    rw [lt_b8 j h8]
    simp [h1, h2]
  · rw [(lt_b9 h8).1, (lt_b9 h8).2]
    simp
theorem lt_cM (w : Int64) : ∀ i, i < 8 → ((w >>> (((Int8.ofInt 8).toInt32 * nI i).toInt64 &&& 63)) &&& Int64.ofInt 255).toInt32 = lt_c w i := by
  intro i hi
  have hs : ∀ i, i < 8 → ((((Int8.ofInt 8).toInt32 * nI i).toInt64 &&& 63).toBitVec.smod 64).toNat = 8 * i := by decide +kernel
  have hu : ∀ i, i < 8 → ((((Int32.ofInt 8 * nI i).toInt64.toUInt64 &&& Int64.toUInt64 63)).toBitVec % 64).toNat = 8 * i := by decide +kernel
  apply Int32.toBitVec_inj.1
  have := lt_bv w.toBitVec (8 * i) (by omega)
  unfold lt_c
  simp only [Int32.toBitVec_and, Int64.toBitVec_toInt32, Int64.toBitVec_and, Int64.toBitVec_shiftRight, BitVec.sshiftRight']
  have e1 : (w.toUInt64 >>> ((Int32.ofInt 8 * nI i).toInt64.toUInt64 &&& Int64.toUInt64 63)).toInt64.toBitVec = w.toBitVec >>> (8 * i) := by
    show (w.toUInt64 >>> ((Int32.ofInt 8 * nI i).toInt64.toUInt64 &&& Int64.toUInt64 63)).toBitVec = _
    rw [UInt64.toBitVec_shiftRight, ← hu i hi]
    rfl
  have hs' : ((((Int8.ofInt 8).toInt32 * nI i).toInt64.toBitVec &&& Int64.toBitVec 63).smod 64).toNat = 8 * i := hs i hi
  rw [e1, hs', BitVec.signExtend_eq_setWidth_of_le _ (by decide), BitVec.signExtend_eq_setWidth_of_le _ (by decide)]
  exact this
