/-! ===== times: halves and doubles ===== -/
/-- how many lines: halves of n until 0 -/
def tw_hv (n : Nat) : Nat := if n = 0 then 0 else Nat.log2 n + 1
theorem tw_hv_iff {n k : Nat} : k < tw_hv n ↔ 0 < n / 2 ^ k := by
  unfold tw_hv
  by_cases h : n = 0
  · subst h; simp
  · rw [if_neg h, Nat.lt_succ_iff, Nat.le_log2 h, Nat.div_pos_iff]
    exact ⟨fun q => ⟨Nat.pos_of_ne_zero (by simp), q⟩, fun q => q.2⟩
theorem tw_hv_le {n : Nat} (h : n < 16384) : tw_hv n ≤ 14 := by
  rcases Nat.lt_or_ge 14 (tw_hv n) with q | q
  · have := tw_hv_iff.mp q
    rw [Nat.div_eq_of_lt (by simpa using h)] at this
    exact absurd this (Nat.lt_irrefl 0)
  · exact q
theorem tw_half (n k : Nat) : n / 2 ^ k / 2 = n / 2 ^ (k + 1) := by rw [Nat.div_div_eq_div_mul, Nat.pow_succ]
section TWH
variable {l : Launch} {G : ax_T} {h : ax_H} {N d : Nat}
theorem tw_tab_halvings : ∀ ch ∈ ut_X10_halvings.2.2.2.2.2.2.2.2, ∀ en ∈ ch, ax_Ok mu_prog RX10 "halvings" cX10_halvings en.1 en.2.1 en.2.2.1 en.2.2.2.1 := vk_X10_halvings.2.2.2
theorem tw_halvings (n : Nat) (hn : n < 16384) : ax_Met l G yX10_halvings cX10_halvings 3 (some .int) (d + 1) [.int (nI n)] (ax_hget h) N (some (.int (nI (tw_hv n)))) (ax_hget h) N 0 0 := by
  refine ax_met_of (by decide +kernel) (Nat.le_of_ble_eq_true rfl) ?_
  intro p e s m args below meth c M hnm hrt
  have htab := tw_tab_halvings
  have hrm : 1 ≤ (ax_rm (d + 1) 0 0).frames ∧ 40 ≤ (ax_rm (d + 1) 0 0).locals := ⟨Nat.le_add_left 1 d, by show 40 ≤ 40 * (d + 1); omega⟩
  have loop : ∀ (f k : Nat), k ≤ tw_hv n → tw_hv n < k + f → ax_W G p l e (ax_rm (d + 1) 0 0) s m args below meth c (MQ below (ax_Qc G (some (.int (nI (tw_hv n)))) (ax_hget h) N) args s 0 0 (fun q => G.2.1 ≤ q)) 3 4 [(2, .int (nI (n / 2 ^ k))), (1, .int (nI k)), (0, .int (nI n))] [] (ax_hget h) N 0 0 := by
    intro f
    induction f with
    | zero => intro k h1 h2; omega
    | succ f ih =>
      intro k h1 h2
      have hq : n / 2 ^ k < 2 ^ 31 := Nat.lt_of_le_of_lt (Nat.div_le_self _ _) (by omega)
      iterate 1 refine ax_one M hnm htab hrm rfl rfl (Nat.zero_le _) (Nat.zero_le _) ?_
      refine ax_if2 M (tgt := 18) dd_X10_halvings_5 (by decide) (fun hc => ?_) (fun hc => ?_)
      · have hz : n / 2 ^ k = 0 := by
          rcases Nat.eq_zero_or_pos (n / 2 ^ k) with q | q
          · exact q
          · exact absurd hc (nI_nle q hq)
        have hk : k = tw_hv n := by
          rcases Nat.lt_or_ge k (tw_hv n) with q | q
          · have := tw_hv_iff.mp q; omega
          · omega
        iterate 1 refine ax_one M hnm htab hrm rfl rfl (Nat.zero_le _) (Nat.zero_le _) ?_
        rw [← hk]
        exact ax_ret_ok M hrt dd_X10_halvings_19 (Or.inr rfl) rfl rfl (Nat.le_refl 0) (Nat.le_refl 0)
      · have hp : 0 < n / 2 ^ k := by
          rcases Nat.eq_zero_or_pos (n / 2 ^ k) with q | q
          · exact absurd (show nI (n / 2 ^ k) ≤ 0 by rw [q]; decide) hc
          · exact q
        iterate 6 refine ax_one M hnm htab hrm rfl rfl (Nat.zero_le _) (Nat.zero_le _) ?_
        have e1 : nI (n / 2 ^ k) >>> ((1 : Int32) &&& 31) = nI (n / 2 ^ (k + 1)) := by
          rw [pk_shrN hq _ 1 (by decide), Nat.pow_one, tw_half]
        have e2 : nI k + Int32.ofInt 1 = nI (k + 1) := nI_1 k
        have := ih (k + 1) (tw_hv_iff.mpr hp) (by omega)
        rw [← e1, ← e2] at this
        exact this
  iterate 4 refine ax_one M hnm htab hrm rfl rfl (Nat.zero_le _) (Nat.zero_le _) ?_
  have := loop (tw_hv n + 1) 0 (Nat.zero_le _) (by omega)
  rw [Nat.pow_zero, Nat.div_one] at this
  exact this
end TWH
theorem ax_ok_at {prog : List ax_MI} {own nm : String} {cc : ByteArray} {tab : List (List ax_EN)} (htab : ∀ ch ∈ tab, ∀ en ∈ ch, ax_Ok prog own nm cc en.1 en.2.1 en.2.2.1 en.2.2.2.1) {pc : Nat} {en : ax_EN} (h : ax_at tab pc = some en) : ax_Ok prog own nm cc pc en.2.1 en.2.2.1 en.2.2.2.1 := by
  obtain ⟨h1, ch, h2, h3⟩ := ax_at_ok h
  have := htab ch h2 en h3
  rw [h1] at this
  exact this
theorem tw_s : ∀ i, i < 32 → ((nI i &&& 31).toBitVec.smod 32).toNat = i := by decide +kernel
def tw_sum (n b : Nat) : Nat → Nat
  | 0 => 0
  | i + 1 => tw_sum n b i + (if n / 2 ^ i % 2 = 1 then b * 2 ^ i else 0)
theorem tw_bit {n i : Nat} (hn : n < 16384) (hi : i < 32) : (nI n >>> (nI i &&& 31)) &&& 1 = nI (n / 2 ^ i % 2) := by
  rw [pk_shrN (by omega) _ i (tw_s i hi), pk_andN (Nat.lt_of_le_of_lt (Nat.div_le_self _ _) (by omega)) 1 (by decide), Nat.pow_one]
theorem tw_shl {b i : Nat} (hb : b < 16384) (hi : i < 14) : nI b <<< (nI i &&& 31) = nI (b * 2 ^ i) := by
  refine pk_shlN _ i (tw_s i (by omega)) ?_
  have h1 : 2 ^ i ≤ 2 ^ 13 := Nat.pow_le_pow_right (by decide) (by omega)
  calc b * 2 ^ i ≤ 16384 * 2 ^ 13 := Nat.mul_le_mul (by omega) h1
    _ < 2 ^ 32 := by decide
theorem mu_ok : ax_Prog mu_prog := List.forall_mem_cons.mpr ⟨vk_X10_halvings, List.forall_mem_cons.mpr ⟨vk_X10_product, List.forall_mem_cons.mpr ⟨vk_X10_doublings, List.forall_mem_cons.mpr ⟨vk_X10_linesTaken, List.forall_mem_cons.mpr ⟨vk_X10_times, List.forall_mem_cons.mpr ⟨vk_X10_parts, List.forall_mem_cons.mpr ⟨vk_X11_in, List.forall_mem_cons.mpr ⟨vk_X11_times, List.forall_mem_cons.mpr ⟨vk_X11_parts, List.forall_mem_cons.mpr ⟨vk_X4_codeAt, List.forall_mem_cons.mpr ⟨vk_X4_lettersIn, List.forall_mem_cons.mpr ⟨vk_X4_append, List.forall_mem_cons.mpr ⟨vk_X10_letters, List.forall_mem_cons.mpr ⟨vk_X11_letters, fun _ h => absurd h List.not_mem_nil⟩⟩⟩⟩⟩⟩⟩⟩⟩⟩⟩⟩⟩⟩
section TWP
variable {l : Launch} {G : ax_T} {h : ax_H} {N d : Nat}
theorem tw_product (n b : Nat) (hn : n < 16384) (hb : b < 16384) : ax_Met l G yX10_product cX10_product 4 (some .int) (d + 2) [.int (nI n), .int (nI b)] (ax_hget h) N (some (.int (nI (tw_sum n b (tw_hv n))))) (ax_hget h) N 0 0 := by
  refine ax_met_of (by decide +kernel) (Nat.le_of_ble_eq_true rfl) ?_
  intro p e s m args below meth c M hnm hrt
  have hrm : 1 ≤ (ax_rm (d + 2) 0 0).frames ∧ 40 ≤ (ax_rm (d + 2) 0 0).locals := ⟨Nat.le_add_left 1 (d + 1), by show 40 ≤ 40 * (d + 2); omega⟩
  have htab : ∀ ch ∈ ut_X10_product.2.2.2.2.2.2.2.2, ∀ en ∈ ch, ax_Ok mu_prog RX10 "product" cX10_product en.1 en.2.1 en.2.2.1 en.2.2.2.1 := vk_X10_product.2.2.2
  have hle := tw_hv_le hn
  have loop : ∀ (f i : Nat), i ≤ tw_hv n → tw_hv n < i + f → ax_W G p l e (ax_rm (d + 2) 0 0) s m args below meth c (MQ below (ax_Qc G (some (.int (nI (tw_sum n b (tw_hv n))))) (ax_hget h) N) args s 0 0 (fun q => G.2.1 ≤ q)) 4 4 [(3, .int (nI i)), (2, .int (nI (tw_sum n b i))), (0, .int (nI n)), (1, .int (nI b))] [] (ax_hget h) N 0 0 := by
    intro f
    induction f with
    | zero => intro i h1 h2; omega
    | succ f ih =>
      intro i h1 h2
      iterate 2 refine ax_one M hnm htab hrm rfl rfl (Nat.zero_le _) (Nat.zero_le _) ?_
      refine ax_inv_ok mu_ok M (ax_ok_at htab (pc := 6) rfl) (q := (ut_X10_halvings, [.int (nI n)], [.int (nI i)])) rfl (o := (some (.int (nI (tw_hv n))), h, N)) (fun _ => tw_halvings (d := d) n hn) (Nat.le_refl _) (Nat.le_refl _) (Nat.le_refl _) (Nat.le_refl _) ?_ (fun q => by cases q)
      refine ax_icmp2 M (tgt := 33) dd_X10_product_9 (by decide) (fun hc => ?_) (fun hc => ?_)
      · have hi : i = tw_hv n := by
          rcases Nat.lt_or_ge i (tw_hv n) with q | q
          · exact absurd hc (nI_ge q (by omega))
          · omega
        iterate 1 refine ax_one M hnm htab hrm rfl rfl (Nat.zero_le _) (Nat.zero_le _) ?_
        rw [← hi]
        exact ax_ret_ok M hrt dd_X10_product_34 (Or.inr rfl) rfl rfl (Nat.le_refl 0) (Nat.le_refl 0)
      · have hi : i < tw_hv n := by
          rcases Nat.lt_or_ge i (tw_hv n) with q | q
          · exact q
          · exact absurd (nI_le q (by omega)) hc
        iterate 6 refine ax_one M hnm htab hrm rfl rfl (Nat.zero_le _) (Nat.zero_le _) ?_
        have hbit := tw_bit (n := n) (i := i) hn (by omega)
        have e2 : nI i + Int32.ofInt 1 = nI (i + 1) := nI_1 i
        refine ax_icmp2 M (tgt := 27) dd_X10_product_18 (by decide) (fun hc2 => ?_) (fun hc2 => ?_)
        · have hb0 : ¬ n / 2 ^ i % 2 = 1 := fun q => hc2 (show nI n >>> (nI i &&& 31) &&& 1 = 1 by rw [hbit, q]; rfl)
          iterate 2 refine ax_one M hnm htab hrm rfl rfl (Nat.zero_le _) (Nat.zero_le _) ?_
          have := ih (i + 1) hi (by omega)
          rw [tw_sum, if_neg hb0, Nat.add_zero, ← e2] at this
          exact this
        · have hb1 : n / 2 ^ i % 2 = 1 := by
            have hlt : n / 2 ^ i % 2 < 2 := Nat.mod_lt _ (by decide)
            rcases (show n / 2 ^ i % 2 = 0 ∨ n / 2 ^ i % 2 = 1 by omega) with q | q
            · exact absurd (show ¬ nI n >>> (nI i &&& 31) &&& 1 = 1 by rw [hbit, q]; decide) hc2
            · exact q
          iterate 8 refine ax_one M hnm htab hrm rfl rfl (Nat.zero_le _) (Nat.zero_le _) ?_
          have := ih (i + 1) hi (by omega)
          have e3 : nI (tw_sum n b (i + 1)) = nI (tw_sum n b i) + (nI b <<< (nI i &&& 31)) := by rw [tw_sum, if_pos hb1, ← nI_add, tw_shl hb (show i < 14 by omega)]
          rw [e3, ← e2] at this
          exact this
  iterate 4 refine ax_one M hnm htab hrm rfl rfl (Nat.zero_le _) (Nat.zero_le _) ?_
  exact loop (tw_hv n + 1) 0 (Nat.zero_le _) (by omega)
end TWP
