/-! ===== times: the class and the reference answer alike ===== -/
/-- what times answers -/
def tw_T (a b w : Int32) : Int32 :=
  if a < 1 ∨ 9999 < a ∨ b < 1 ∨ 9999 < b then -102
  else if w = 0 then nI (tw_sum a.toNatClampNeg b.toNatClampNeg (tw_hv a.toNatClampNeg))
  else if w = 1 then nI (tw_hv a.toNatClampNeg)
  else if 10 ≤ w ∧ w < 30 then (if w.toNatClampNeg - 10 < tw_hv a.toNatClampNeg then nI (a.toNatClampNeg / 2 ^ (w.toNatClampNeg - 10)) else -1)
  else if 30 ≤ w ∧ w < 50 then (if w.toNatClampNeg - 30 < tw_hv a.toNatClampNeg then nI (b.toNatClampNeg * 2 ^ (w.toNatClampNeg - 30)) else -1)
  else -102
theorem tw_rng {a : Int32} (h1 : ¬ a < 1) (h2 : ¬ 9999 < a) : ∃ n : Nat, 1 ≤ n ∧ n ≤ 9999 ∧ a = nI n := by
  rw [Int32.lt_iff_toInt_lt] at h1 h2
  have e1 : (1 : Int32).toInt = 1 := rfl
  have e2 : (9999 : Int32).toInt = 9999 := rfl
  rw [e1] at h1
  rw [e2] at h2
  obtain ⟨j, hj, rfl⟩ := nI_of (x := a) (by rw [Int32.lt_iff_toInt_lt]; show ¬ a.toInt < 0; omega)
  rw [nI_toInt hj] at h1 h2
  exact ⟨j, by omega, by omega, rfl⟩
theorem tw_lt {x : Int32} {k : Nat} (hk : k < 2 ^ 31) : (x < nI k ↔ x.toInt < k) := by rw [Int32.lt_iff_toInt_lt, nI_toInt hk]
theorem tw_le {x : Int32} {k : Nat} (hk : k < 2 ^ 31) : (nI k ≤ x ↔ (k : Int) ≤ x.toInt) := by rw [Int32.le_iff_toInt_le, nI_toInt hk]
/-- an int between two small numbers -/
theorem tw_btw {w : Int32} {lo hi : Nat} (hhi : hi < 2 ^ 31) (h1 : nI lo ≤ w) (h2 : w < nI hi) (hlo : lo < 2 ^ 31) : ∃ j : Nat, lo ≤ j ∧ j < hi ∧ w = nI j := by
  rw [tw_le hlo] at h1
  rw [tw_lt hhi] at h2
  obtain ⟨j, hj, rfl⟩ := nI_of (x := w) (by rw [Int32.lt_iff_toInt_lt]; show ¬ w.toInt < 0; omega)
  rw [nI_toInt hj] at h1 h2
  exact ⟨j, by omega, by omega, rfl⟩
section TWC
variable {l : Launch} {G : ax_T} {h : ax_H} {N d k0 : Nat}
theorem tw_times (a b w : Int32) : ax_Met l G yX10_times cX10_times 5 (some .int) (d + 3) [.ref k0, .int a, .int b, .int w] (ax_hget h) N (some (.int (tw_T a b w))) (ax_hget h) N 0 0 := by
  refine ax_met_of (by decide +kernel) (Nat.le_of_ble_eq_true rfl) ?_
  intro p e s m args below meth c M hnm hrt
  have htab : ∀ ch ∈ ut_X10_times.2.2.2.2.2.2.2.2, ∀ en ∈ ch, ax_Ok mu_prog RX10 "times" cX10_times en.1 en.2.1 en.2.2.1 en.2.2.2.1 := vk_X10_times.2.2.2
  have hrm : 1 ≤ (ax_rm (d + 3) 0 0).frames ∧ 40 ≤ (ax_rm (d + 3) 0 0).locals := ⟨Nat.le_add_left 1 (d + 2), by show 40 ≤ 40 * (d + 3); omega⟩
  have out : ∀ (hT : tw_T a b w = -102) (lv : List (Nat × Value)), ax_W G p l e (ax_rm (d + 3) 0 0) s m args below meth c (MQ below (ax_Qc G (some (.int (tw_T a b w))) (ax_hget h) N) args s 0 0 (fun q => G.2.1 ≤ q)) 5 24 lv [] (ax_hget h) N 0 0 := by
    intro hT lv
    iterate 1 refine ax_one M hnm htab hrm rfl rfl (Nat.zero_le _) (Nat.zero_le _) ?_
    rw [hT]
    exact ax_ret_ok M hrt dd_X10_times_26 (Or.inr rfl) rfl rfl (Nat.le_refl 0) (Nat.le_refl 0)
  iterate 2 refine ax_one M hnm htab hrm rfl rfl (Nat.zero_le _) (Nat.zero_le _) ?_
  refine ax_icmp2 M (tgt := 24) dd_X10_times_2 (by decide) (fun c1 => out (if_pos (Or.inl c1)) _) (fun c1 => ?_)
  iterate 2 refine ax_one M hnm htab hrm rfl rfl (Nat.zero_le _) (Nat.zero_le _) ?_
  refine ax_icmp2 M (tgt := 24) dd_X10_times_9 (by decide) (fun c2 => out (if_pos (Or.inr (Or.inl c2))) _) (fun c2 => ?_)
  iterate 2 refine ax_one M hnm htab hrm rfl rfl (Nat.zero_le _) (Nat.zero_le _) ?_
  refine ax_icmp2 M (tgt := 24) dd_X10_times_14 (by decide) (fun c3 => out (if_pos (Or.inr (Or.inr (Or.inl c3)))) _) (fun c3 => ?_)
  iterate 2 refine ax_one M hnm htab hrm rfl rfl (Nat.zero_le _) (Nat.zero_le _) ?_
  refine ax_icmp2 M (tgt := 27) dd_X10_times_21 (by decide) (fun c4 => ?_) (fun c4 => out (if_pos (Or.inr (Or.inr (Or.inr (Int32.not_le.mp c4))))) _)
  have c4' : ¬ 9999 < b := Int32.not_lt.mpr c4
  have hin : ¬ (a < 1 ∨ 9999 < a ∨ b < 1 ∨ 9999 < b) := by
    rintro (q | q | q | q)
    · exact c1 q
    · exact c2 q
    · exact c3 q
    · exact c4' q
  obtain ⟨n, hn1, hn2, rfl⟩ := tw_rng c1 c2
  obtain ⟨k, hk1, hk2, rfl⟩ := tw_rng c3 c4'
  have en : (nI n).toNatClampNeg = n := nI_clamp (by omega)
  have ek : (nI k).toNatClampNeg = k := nI_clamp (by omega)
  have hle := tw_hv_le (n := n) (by omega)
  have hT0 : tw_T (nI n) (nI k) w = if w = 0 then nI (tw_sum n k (tw_hv n)) else if w = 1 then nI (tw_hv n) else if 10 ≤ w ∧ w < 30 then (if w.toNatClampNeg - 10 < tw_hv n then nI (n / 2 ^ (w.toNatClampNeg - 10)) else -1) else if 30 ≤ w ∧ w < 50 then (if w.toNatClampNeg - 30 < tw_hv n then nI (k * 2 ^ (w.toNatClampNeg - 30)) else -1) else -102 := by
    unfold tw_T; rw [if_neg hin, en, ek]
  have e10 : (Int8.ofInt 10).toInt32 = nI 10 := by decide
  have e30 : (Int8.ofInt 30).toInt32 = nI 30 := by decide
  have e50 : (Int8.ofInt 50).toInt32 = nI 50 := by decide
  have b119 : ∀ (hT : tw_T (nI n) (nI k) w = -102) (lv : List (Nat × Value)), ax_W G p l e (ax_rm (d + 3) 0 0) s m args below meth c (MQ below (ax_Qc G (some (.int (tw_T (nI n) (nI k) w))) (ax_hget h) N) args s 0 0 (fun q => G.2.1 ≤ q)) 5 119 lv [] (ax_hget h) N 0 0 := by
    intro hT lv
    iterate 1 refine ax_one M hnm htab hrm rfl rfl (Nat.zero_le _) (Nat.zero_le _) ?_
    rw [hT]
    exact ax_ret_ok M hrt dd_X10_times_121 (Or.inr rfl) rfl rfl (Nat.le_refl 0) (Nat.le_refl 0)
  have b83 : ∀ (g0 : ¬ w = 0) (g1 : ¬ w = 1) (g2 : ¬ (10 ≤ w ∧ w < 30)), ax_W G p l e (ax_rm (d + 3) 0 0) s m args below meth c (MQ below (ax_Qc G (some (.int (tw_T (nI n) (nI k) w))) (ax_hget h) N) args s 0 0 (fun q => G.2.1 ≤ q)) 5 83 [(0, .ref k0), (1, .int (nI n)), (2, .int (nI k)), (3, .int w)] [] (ax_hget h) N 0 0 := by
    intro g0 g1 g2
    rw [if_neg g0, if_neg g1, if_neg g2] at hT0
    iterate 2 refine ax_one M hnm htab hrm rfl rfl (Nat.zero_le _) (Nat.zero_le _) ?_
    refine ax_icmp2 M (tgt := 119) dd_X10_times_86 (by decide) (fun c7 => b119 ?_ _) (fun c7 => ?_)
    · have c7' : w < nI 30 := e30 ▸ (show w < (Int8.ofInt 30).toInt32 from c7)
      rw [hT0, if_neg (fun q => absurd q.1 (Int32.not_le.mpr c7'))]
    · have c7' : nI 30 ≤ w := Int32.not_lt.mp (e30 ▸ (show ¬ w < (Int8.ofInt 30).toInt32 from c7))
      iterate 2 refine ax_one M hnm htab hrm rfl rfl (Nat.zero_le _) (Nat.zero_le _) ?_
      refine ax_icmp2 M (tgt := 119) dd_X10_times_92 (by decide) (fun c8 => b119 ?_ _) (fun c8 => ?_)
      · have c8' : nI 50 ≤ w := e50 ▸ (show (Int8.ofInt 50).toInt32 ≤ w from c8)
        rw [hT0, if_neg (fun q => absurd q.2 (Int32.not_lt.mpr c8'))]
      · have c8' : w < nI 50 := Int32.not_le.mp (e50 ▸ (show ¬ (Int8.ofInt 50).toInt32 ≤ w from c8))
        obtain ⟨j, hj1, hj2, rfl⟩ := tw_btw (by decide) c7' c8' (by decide)
        rw [if_pos ⟨c7', c8'⟩, nI_clamp (show j < 2 ^ 31 by omega)] at hT0
        have esub : nI j - (Int8.ofInt 30).toInt32 = nI (j - 30) := by rw [e30]; exact pk_sub hj1
        iterate 6 refine ax_one M hnm htab hrm rfl rfl (Nat.zero_le _) (Nat.zero_le _) ?_
        refine ax_inv_ok mu_ok M (ax_ok_at htab (pc := 104) rfl) (q := (ut_X10_halvings, [.int (nI n)], [.int (nI j - (Int8.ofInt 30).toInt32)])) rfl (o := (some (.int (nI (tw_hv n))), h, N)) (fun _ => tw_halvings (d := d + 1) n (by omega)) (Nat.le_refl _) (Nat.le_refl _) (Nat.le_refl _) (Nat.le_refl _) ?_ (fun q => by cases q)
        refine ax_icmp2 M (tgt := 117) dd_X10_times_107 (by decide) (fun c9 => ?_) (fun c9 => ?_)
        · have c9' : nI (tw_hv n) ≤ nI (j - 30) := esub ▸ (show nI (tw_hv n) ≤ nI j - (Int8.ofInt 30).toInt32 from c9)
          rw [nI_leI (by omega) (by omega)] at c9'
          rw [if_neg (by omega)] at hT0
          iterate 1 refine ax_one M hnm htab hrm rfl rfl (Nat.zero_le _) (Nat.zero_le _) ?_
          rw [hT0]
          exact ax_ret_ok M hrt dd_X10_times_118 (Or.inr rfl) rfl rfl (Nat.le_refl 0) (Nat.le_refl 0)
        · have c9' : ¬ nI (tw_hv n) ≤ nI (j - 30) := fun q => c9 (show nI (tw_hv n) ≤ nI j - (Int8.ofInt 30).toInt32 by rw [esub]; exact q)
          rw [nI_leI (by omega) (by omega)] at c9'
          rw [if_pos (by omega), ← tw_shl (show k < 16384 by omega) (show j - 30 < 14 by omega), ← esub] at hT0
          iterate 4 refine ax_one M hnm htab hrm rfl rfl (Nat.zero_le _) (Nat.zero_le _) ?_
          rw [hT0]
          exact ax_ret_ok M hrt dd_X10_times_118 (Or.inr rfl) rfl rfl (Nat.le_refl 0) (Nat.le_refl 0)
  iterate 1 refine ax_one M hnm htab hrm rfl rfl (Nat.zero_le _) (Nat.zero_le _) ?_
  refine ax_if2 M (tgt := 37) dd_X10_times_28 (by decide) (fun c5 => ?_) (fun c5 => ?_)
  · iterate 2 refine ax_one M hnm htab hrm rfl rfl (Nat.zero_le _) (Nat.zero_le _) ?_
    have g0 : ¬ w = 0 := c5
    refine ax_icmp2 M (tgt := 47) dd_X10_times_39 (by decide) (fun c6 => ?_) (fun c6 => ?_)
    · have g1 : ¬ w = 1 := c6
      iterate 2 refine ax_one M hnm htab hrm rfl rfl (Nat.zero_le _) (Nat.zero_le _) ?_
      refine ax_icmp2 M (tgt := 83) dd_X10_times_50 (by decide) (fun c7 => b83 g0 g1 ?_) (fun c7 => ?_)
      · have c7' : w < nI 10 := e10 ▸ (show w < (Int8.ofInt 10).toInt32 from c7)
        exact fun q => absurd q.1 (Int32.not_le.mpr c7')
      · have c7' : nI 10 ≤ w := Int32.not_lt.mp (e10 ▸ (show ¬ w < (Int8.ofInt 10).toInt32 from c7))
        iterate 2 refine ax_one M hnm htab hrm rfl rfl (Nat.zero_le _) (Nat.zero_le _) ?_
        refine ax_icmp2 M (tgt := 83) dd_X10_times_56 (by decide) (fun c8 => b83 g0 g1 ?_) (fun c8 => ?_)
        · have c8' : nI 30 ≤ w := e30 ▸ (show (Int8.ofInt 30).toInt32 ≤ w from c8)
          exact fun q => absurd q.2 (Int32.not_lt.mpr c8')
        · have c8' : w < nI 30 := Int32.not_le.mp (e30 ▸ (show ¬ (Int8.ofInt 30).toInt32 ≤ w from c8))
          obtain ⟨j, hj1, hj2, rfl⟩ := tw_btw (by decide) c7' c8' (by decide)
          rw [if_neg g0, if_neg g1, if_pos ⟨c7', c8'⟩, nI_clamp (show j < 2 ^ 31 by omega)] at hT0
          have esub : nI j - (Int8.ofInt 10).toInt32 = nI (j - 10) := by rw [e10]; exact pk_sub hj1
          iterate 6 refine ax_one M hnm htab hrm rfl rfl (Nat.zero_le _) (Nat.zero_le _) ?_
          refine ax_inv_ok mu_ok M (ax_ok_at htab (pc := 68) rfl) (q := (ut_X10_halvings, [.int (nI n)], [.int (nI j - (Int8.ofInt 10).toInt32)])) rfl (o := (some (.int (nI (tw_hv n))), h, N)) (fun _ => tw_halvings (d := d + 1) n (by omega)) (Nat.le_refl _) (Nat.le_refl _) (Nat.le_refl _) (Nat.le_refl _) ?_ (fun q => by cases q)
          refine ax_icmp2 M (tgt := 81) dd_X10_times_71 (by decide) (fun c9 => ?_) (fun c9 => ?_)
          · have c9' : nI (tw_hv n) ≤ nI (j - 10) := esub ▸ (show nI (tw_hv n) ≤ nI j - (Int8.ofInt 10).toInt32 from c9)
            rw [nI_leI (by omega) (by omega)] at c9'
            rw [if_neg (by omega)] at hT0
            iterate 1 refine ax_one M hnm htab hrm rfl rfl (Nat.zero_le _) (Nat.zero_le _) ?_
            rw [hT0]
            exact ax_ret_ok M hrt dd_X10_times_82 (Or.inr rfl) rfl rfl (Nat.le_refl 0) (Nat.le_refl 0)
          · have c9' : ¬ nI (tw_hv n) ≤ nI (j - 10) := fun q => c9 (show nI (tw_hv n) ≤ nI j - (Int8.ofInt 10).toInt32 by rw [esub]; exact q)
            rw [nI_leI (by omega) (by omega)] at c9'
            rw [if_pos (by omega), ← pk_shrN (show n < 2 ^ 31 by omega) (nI (j - 10) &&& 31) (j - 10) (tw_s _ (by omega)), ← esub] at hT0
            iterate 4 refine ax_one M hnm htab hrm rfl rfl (Nat.zero_le _) (Nat.zero_le _) ?_
            rw [hT0]
            exact ax_ret_ok M hrt dd_X10_times_82 (Or.inr rfl) rfl rfl (Nat.le_refl 0) (Nat.le_refl 0)
    · have g1 : w = 1 := Classical.byContradiction c6
      rw [if_neg g0, if_pos g1] at hT0
      iterate 1 refine ax_one M hnm htab hrm rfl rfl (Nat.zero_le _) (Nat.zero_le _) ?_
      refine ax_inv_ok mu_ok M (ax_ok_at htab (pc := 43) rfl) (q := (ut_X10_halvings, [.int (nI n)], [])) rfl (o := (some (.int (nI (tw_hv n))), h, N)) (fun _ => tw_halvings (d := d + 1) n (by omega)) (Nat.le_refl _) (Nat.le_refl _) (Nat.le_refl _) (Nat.le_refl _) ?_ (fun q => by cases q)
      rw [hT0]
      exact ax_ret_ok M hrt dd_X10_times_46 (Or.inr rfl) rfl rfl (Nat.le_refl 0) (Nat.le_refl 0)
  · have g0 : w = 0 := Classical.byContradiction c5
    rw [if_pos g0] at hT0
    iterate 2 refine ax_one M hnm htab hrm rfl rfl (Nat.zero_le _) (Nat.zero_le _) ?_
    refine ax_inv_ok mu_ok M (ax_ok_at htab (pc := 33) rfl) (q := (ut_X10_product, [.int (nI n), .int (nI k)], [])) rfl (o := (some (.int (nI (tw_sum n k (tw_hv n)))), h, N)) (fun _ => tw_product (d := d) n k (by omega) (by omega)) (Nat.le_refl _) (Nat.le_refl _) (Nat.le_refl _) (Nat.le_refl _) ?_ (fun q => by cases q)
    rw [hT0]
    exact ax_ret_ok M hrt dd_X10_times_36 (Or.inr rfl) rfl rfl (Nat.le_refl 0) (Nat.le_refl 0)
end TWC
