/-! ===== times: the reference ===== -/
theorem ax_lvp {G : ax_T} {p : Program} {l : Launch} {e : Env} {R : Room} {s : State} {m : MethodId} {args : Array Value} {below : List Frame} {meth : Method} {c : Code} {Q : State → Prop} {nL pc n cs ss : Nat} {lv lv2 : List (Nat × Value)} {st : List Value} {g : Nat → Option ax_C} (ks : List Nat) (hk : ks.filterMap (fun i => lv[i]?) = lv2)
    (kk : ax_W G p l e R s m args below meth c Q nL pc lv2 st g n cs ss) : ax_W G p l e R s m args below meth c Q nL pc lv st g n cs ss := by
  intro ls H locs hl hR hL
  refine kk ls H locs ⟨hl.1, hl.2.1, fun q hq => ?_⟩ hR hL
  obtain ⟨r, hr, rfl⟩ := List.mem_map.mp hq
  rw [← hk] at hr
  obtain ⟨i, -, hi⟩ := List.mem_filterMap.mp hr
  exact hl.2.2 _ (List.mem_map.mpr ⟨r, List.mem_of_getElem? hi, rfl⟩)
section TWM
variable {l : Launch} {G : ax_T} {h : ax_H} {N d k0 : Nat}
theorem tw_in (v lo hi : Int32) : ax_Met l G yX11_in cX11_in 3 (some .boolean) (d + 1) [.int v, .int lo, .int hi] (ax_hget h) N (some (.int (if lo ≤ v ∧ v ≤ hi then 1 else 0))) (ax_hget h) N 0 0 := by
  refine ax_met_of (by decide +kernel) (Nat.le_of_ble_eq_true rfl) ?_
  intro p e s m args below meth c M hnm hrt
  have htab : ∀ ch ∈ ut_X11_in.2.2.2.2.2.2.2.2, ∀ en ∈ ch, ax_Ok mu_prog RX11 "in" cX11_in en.1 en.2.1 en.2.2.1 en.2.2.2.1 := vk_X11_in.2.2.2
  have hrm : 1 ≤ (ax_rm (d + 1) 0 0).frames ∧ 40 ≤ (ax_rm (d + 1) 0 0).locals := ⟨Nat.le_add_left 1 d, by show 40 ≤ 40 * (d + 1); omega⟩
  have b14 : ∀ (hT : ¬ (lo ≤ v ∧ v ≤ hi)) (lv : List (Nat × Value)), ax_W G p l e (ax_rm (d + 1) 0 0) s m args below meth c (MQ below (ax_Qc G (some (.int (if lo ≤ v ∧ v ≤ hi then 1 else 0))) (ax_hget h) N) args s 0 0 (fun q => G.2.1 ≤ q)) 3 14 lv [] (ax_hget h) N 0 0 := by
    intro hT lv
    iterate 1 refine ax_one M hnm htab hrm rfl rfl (Nat.zero_le _) (Nat.zero_le _) ?_
    rw [if_neg hT]
    exact ax_ret_ok M hrt dd_X11_in_15 (Or.inr rfl) rfl rfl (Nat.le_refl 0) (Nat.le_refl 0)
  iterate 2 refine ax_one M hnm htab hrm rfl rfl (Nat.zero_le _) (Nat.zero_le _) ?_
  refine ax_icmp2 M (tgt := 14) dd_X11_in_2 (by decide) (fun c1 => b14 (fun q => absurd q.1 (Int32.not_le.mpr c1)) _) (fun c1 => ?_)
  iterate 2 refine ax_one M hnm htab hrm rfl rfl (Nat.zero_le _) (Nat.zero_le _) ?_
  refine ax_icmp2 M (tgt := 14) dd_X11_in_7 (by decide) (fun c2 => b14 (fun q => absurd q.2 (Int32.not_le.mpr c2)) _) (fun c2 => ?_)
  iterate 2 refine ax_one M hnm htab hrm rfl rfl (Nat.zero_le _) (Nat.zero_le _) ?_
  rw [if_pos ⟨Int32.not_lt.mp c1, Int32.not_lt.mp c2⟩]
  exact ax_ret_ok M hrt dd_X11_in_15 (Or.inr rfl) rfl rfl (Nat.le_refl 0) (Nat.le_refl 0)
end TWM
def tw_told (w : Int32) (n k : Nat) : Nat → Int32
  | 0 => -1
  | i + 1 => if w = nI 10 + nI i then nI (n / 2 ^ i) else if w = nI 30 + nI i then nI (k * 2 ^ i) else tw_told w n k i
theorem tw_told_10 {j n k : Nat} (h1 : 10 ≤ j) (h2 : j < 30) : ∀ i, i ≤ 14 → tw_told (nI j) n k i = if j - 10 < i then nI (n / 2 ^ (j - 10)) else -1
  | 0, _ => by rw [if_neg (by omega)]; rfl
  | i + 1, hi => by
    rw [tw_told, nI_add, nI_add, tw_told_10 h1 h2 i (by omega)]
    by_cases e : j = 10 + i
    · rw [if_pos (by rw [e]), if_pos (by omega)]
      congr 3; omega
    · rw [if_neg (fun q => e ((nI_eq (by omega) (by omega)).mp q)), if_neg (fun q => by have := (nI_eq (by omega) (by omega)).mp q; omega)]
      by_cases e2 : j - 10 < i
      · rw [if_pos e2, if_pos (by omega)]
      · rw [if_neg e2, if_neg (by omega)]
theorem tw_told_30 {j n k : Nat} (h1 : 30 ≤ j) (h2 : j < 50) : ∀ i, i ≤ 14 → tw_told (nI j) n k i = if j - 30 < i then nI (k * 2 ^ (j - 30)) else -1
  | 0, _ => by rw [if_neg (by omega)]; rfl
  | i + 1, hi => by
    rw [tw_told, nI_add, nI_add, tw_told_30 h1 h2 i (by omega)]
    by_cases e : j = 30 + i
    · rw [if_neg (fun q => by have := (nI_eq (by omega) (by omega)).mp q; omega), if_pos (by rw [e]), if_pos (by omega)]
      congr 3; omega
    · rw [if_neg (fun q => by have := (nI_eq (by omega) (by omega)).mp q; omega), if_neg (fun q => e ((nI_eq (by omega) (by omega)).mp q))]
      by_cases e2 : j - 30 < i
      · rw [if_pos e2, if_pos (by omega)]
      · rw [if_neg e2, if_neg (by omega)]
theorem tw_ite0 {P : Prop} [Decidable P] : ((if P then (1 : Int32) else 0) = 0) ↔ ¬ P := by
  by_cases h : P
  · rw [if_pos h]; exact ⟨fun q => absurd q (by decide), fun q => absurd h q⟩
  · rw [if_neg h]; exact ⟨fun _ => h, fun _ => rfl⟩
section TWR
variable {l : Launch} {G : ax_T} {h : ax_H} {N d k0 : Nat}
set_option maxHeartbeats 1000000 in
theorem tw_timesM (a b w : Int32) : ax_Met l G yX11_times cX11_times 9 (some .int) (d + 2) [.ref k0, .int a, .int b, .int w] (ax_hget h) N (some (.int (tw_T a b w))) (ax_hget h) N 0 0 := by
  refine ax_met_of (by decide +kernel) (Nat.le_of_ble_eq_true rfl) ?_
  intro p e s m args below meth c M hnm hrt
  have htab : ∀ ch ∈ ut_X11_times.2.2.2.2.2.2.2.2, ∀ en ∈ ch, ax_Ok mu_prog RX11 "times" cX11_times en.1 en.2.1 en.2.2.1 en.2.2.2.1 := vk_X11_times.2.2.2
  have hrm : 1 ≤ (ax_rm (d + 2) 0 0).frames ∧ 40 ≤ (ax_rm (d + 2) 0 0).locals := ⟨Nat.le_add_left 1 (d + 1), by show 40 ≤ 40 * (d + 2); omega⟩
  have e1 : Int32.ofInt 1 = (1 : Int32) := by decide
  have e9999 : (Int16.ofInt 9999).toInt32 = (9999 : Int32) := by decide
  have e10 : (Int8.ofInt 10).toInt32 = nI 10 := by decide
  have e30 : (Int8.ofInt 30).toInt32 = nI 30 := by decide
  have e49 : (Int8.ofInt 49).toInt32 = nI 49 := by decide
  have out : ∀ (hT : tw_T a b w = -102) (lv : List (Nat × Value)), ax_W G p l e (ax_rm (d + 2) 0 0) s m args below meth c (MQ below (ax_Qc G (some (.int (tw_T a b w))) (ax_hget h) N) args s 0 0 (fun q => G.2.1 ≤ q)) 9 42 lv [] (ax_hget h) N 0 0 := by
    intro hT lv
    iterate 1 refine ax_one M hnm htab hrm rfl rfl (Nat.zero_le _) (Nat.zero_le _) ?_
    rw [hT]
    exact ax_ret_ok M hrt dd_X11_times_44 (Or.inr rfl) rfl rfl (Nat.le_refl 0) (Nat.le_refl 0)
  iterate 3 refine ax_one M hnm htab hrm rfl rfl (Nat.zero_le _) (Nat.zero_le _) ?_
  refine ax_inv_ok mu_ok M (ax_ok_at htab (pc := 5) rfl) (q := (ut_X11_in, [.int a, .int (Int32.ofInt 1), .int (Int16.ofInt 9999).toInt32], [])) rfl (o := (some (.int (if (Int32.ofInt 1) ≤ a ∧ a ≤ (Int16.ofInt 9999).toInt32 then 1 else 0)), h, N)) (fun _ => tw_in (d := d) _ _ _) (Nat.le_refl _) (Nat.le_refl _) (Nat.le_refl _) (Nat.le_refl _) ?_ (fun q => by cases q)
  refine ax_if2 M (tgt := 42) dd_X11_times_8 (by decide) (fun c1 => out ?_ _) (fun c1 => ?_)
  · have c1' : ¬ (1 ≤ a ∧ a ≤ 9999) := by rw [← e1, ← e9999]; exact tw_ite0.mp c1
    refine if_pos ?_
    rcases Classical.em (a < 1) with q | q
    · exact Or.inl q
    · exact Or.inr (Or.inl (Int32.not_le.mp (fun z => c1' ⟨Int32.not_lt.mp q, z⟩)))
  have c1' : 1 ≤ a ∧ a ≤ 9999 := by rw [← e1, ← e9999]; exact Classical.byContradiction (fun z => c1 (tw_ite0.mpr z))
  iterate 3 refine ax_one M hnm htab hrm rfl rfl (Nat.zero_le _) (Nat.zero_le _) ?_
  refine ax_inv_ok mu_ok M (ax_ok_at htab (pc := 16) rfl) (q := (ut_X11_in, [.int b, .int (Int32.ofInt 1), .int (Int16.ofInt 9999).toInt32], [])) rfl (o := (some (.int (if (Int32.ofInt 1) ≤ b ∧ b ≤ (Int16.ofInt 9999).toInt32 then 1 else 0)), h, N)) (fun _ => tw_in (d := d) _ _ _) (Nat.le_refl _) (Nat.le_refl _) (Nat.le_refl _) (Nat.le_refl _) ?_ (fun q => by cases q)
  refine ax_if2 M (tgt := 42) dd_X11_times_19 (by decide) (fun c2 => out ?_ _) (fun c2 => ?_)
  · have c2' : ¬ (1 ≤ b ∧ b ≤ 9999) := by rw [← e1, ← e9999]; exact tw_ite0.mp c2
    refine if_pos ?_
    rcases Classical.em (b < 1) with q | q
    · exact Or.inr (Or.inr (Or.inl q))
    · exact Or.inr (Or.inr (Or.inr (Int32.not_le.mp (fun z => c2' ⟨Int32.not_lt.mp q, z⟩))))
  have c2' : 1 ≤ b ∧ b ≤ 9999 := by rw [← e1, ← e9999]; exact Classical.byContradiction (fun z => c2 (tw_ite0.mpr z))
  have hin : ¬ (a < 1 ∨ 9999 < a ∨ b < 1 ∨ 9999 < b) := by
    rintro (q | q | q | q)
    · exact absurd c1'.1 (Int32.not_le.mpr q)
    · exact absurd c1'.2 (Int32.not_le.mpr q)
    · exact absurd c2'.1 (Int32.not_le.mpr q)
    · exact absurd c2'.2 (Int32.not_le.mpr q)
  obtain ⟨n, hn1, hn2, rfl⟩ := tw_rng (Int32.not_lt.mpr c1'.1) (Int32.not_lt.mpr c1'.2)
  obtain ⟨k, hk1, hk2, rfl⟩ := tw_rng (Int32.not_lt.mpr c2'.1) (Int32.not_lt.mpr c2'.2)
  have en : (nI n).toNatClampNeg = n := nI_clamp (by omega)
  have ek : (nI k).toNatClampNeg = k := nI_clamp (by omega)
  have hle := tw_hv_le (n := n) (by omega)
  have hT0 : tw_T (nI n) (nI k) w = if w = 0 then nI (tw_sum n k (tw_hv n)) else if w = 1 then nI (tw_hv n) else if 10 ≤ w ∧ w < 30 then (if w.toNatClampNeg - 10 < tw_hv n then nI (n / 2 ^ (w.toNatClampNeg - 10)) else -1) else if 30 ≤ w ∧ w < 50 then (if w.toNatClampNeg - 30 < tw_hv n then nI (k * 2 ^ (w.toNatClampNeg - 30)) else -1) else -102 := by
    unfold tw_T; rw [if_neg hin, en, ek]
  have b134 : ∀ (hw : w = 0 ∨ w = 1 ∨ (nI 10 ≤ w ∧ w ≤ nI 49)) (x7 x6 : Int32), ax_W G p l e (ax_rm (d + 2) 0 0) s m args below meth c (MQ below (ax_Qc G (some (.int (tw_T (nI n) (nI k) w))) (ax_hget h) N) args s 0 0 (fun q => G.2.1 ≤ q)) 9 134 [(8, .int (tw_told w n k (tw_hv n))), (7, .int x7), (6, .int x6), (5, .int (nI (tw_hv n))), (4, .int (nI (tw_sum n k (tw_hv n)))), (0, .ref k0), (1, .int (nI n)), (2, .int (nI k)), (3, .int w)] [] (ax_hget h) N 0 0 := by
    intro hw x7 x6
    iterate 1 refine ax_one M hnm htab hrm rfl rfl (Nat.zero_le _) (Nat.zero_le _) ?_
    refine ax_if2 M (tgt := 143) dd_X11_times_135 (by decide) (fun c5 => ?_) (fun c5 => ?_)
    · have g0 : ¬ w = 0 := c5
      iterate 2 refine ax_one M hnm htab hrm rfl rfl (Nat.zero_le _) (Nat.zero_le _) ?_
      refine ax_icmp2 M (tgt := 153) dd_X11_times_145 (by decide) (fun c6 => ?_) (fun c6 => ?_)
      · have g1 : ¬ w = 1 := c6
        iterate 1 refine ax_one M hnm htab hrm rfl rfl (Nat.zero_le _) (Nat.zero_le _) ?_
        have hv : tw_told w n k (tw_hv n) = tw_T (nI n) (nI k) w := by
          rw [hT0, if_neg g0, if_neg g1]
          rcases hw with q | q | ⟨q1, q2⟩
          · exact absurd q g0
          · exact absurd q g1
          · have q3 : w < nI 50 := by rw [Int32.lt_iff_toInt_lt]; rw [Int32.le_iff_toInt_le] at q2; have z1 : (nI 49).toInt = 49 := rfl; have z2 : (nI 50).toInt = 50 := rfl; omega
            obtain ⟨j, hj1, hj2, rfl⟩ := tw_btw (by decide) q1 q3 (by decide)
            rw [nI_clamp (show j < 2 ^ 31 by omega)]
            rcases Nat.lt_or_ge j 30 with hj | hj
            · have a1 : (10 : Int32) ≤ nI j := q1
              have a2 : nI j < (30 : Int32) := nI_lt hj (by decide)
              rw [if_pos ⟨a1, a2⟩, tw_told_10 hj1 hj _ hle]
            · have a2 : ¬ nI j < (30 : Int32) := nI_nlt hj (by omega)
              have a3 : (30 : Int32) ≤ nI j := nI_le hj (by omega)
              rw [if_neg (fun z => a2 z.2), if_pos ⟨a3, q3⟩, tw_told_30 hj hj2 _ hle]
        rw [← hv]
        exact ax_ret_ok M hrt dd_X11_times_155 (Or.inr rfl) rfl rfl (Nat.le_refl 0) (Nat.le_refl 0)
      · have g1 : w = 1 := Classical.byContradiction c6
        rw [if_neg g0, if_pos g1] at hT0
        iterate 2 refine ax_one M hnm htab hrm rfl rfl (Nat.zero_le _) (Nat.zero_le _) ?_
        rw [hT0]
        exact ax_ret_ok M hrt dd_X11_times_155 (Or.inr rfl) rfl rfl (Nat.le_refl 0) (Nat.le_refl 0)
    · have g0 : w = 0 := Classical.byContradiction c5
      rw [if_pos g0] at hT0
      iterate 2 refine ax_one M hnm htab hrm rfl rfl (Nat.zero_le _) (Nat.zero_le _) ?_
      rw [hT0]
      exact ax_ret_ok M hrt dd_X11_times_155 (Or.inr rfl) rfl rfl (Nat.le_refl 0) (Nat.le_refl 0)
  have loop : ∀ (hw : w = 0 ∨ w = 1 ∨ (nI 10 ≤ w ∧ w ≤ nI 49)) (f i : Nat), i ≤ tw_hv n → tw_hv n < i + f → ax_W G p l e (ax_rm (d + 2) 0 0) s m args below meth c (MQ below (ax_Qc G (some (.int (tw_T (nI n) (nI k) w))) (ax_hget h) N) args s 0 0 (fun q => G.2.1 ≤ q)) 9 60 [(8, .int (tw_told w n k i)), (7, .int (nI (k * 2 ^ i))), (6, .int (nI (n / 2 ^ i))), (5, .int (nI i)), (4, .int (nI (tw_sum n k i))), (0, .ref k0), (1, .int (nI n)), (2, .int (nI k)), (3, .int w)] [] (ax_hget h) N 0 0 := by
    intro hw f
    induction f with
    | zero => intro i h1 h2; omega
    | succ f ih =>
      intro i h1 h2
      have hq : n / 2 ^ i < 2 ^ 31 := Nat.lt_of_le_of_lt (Nat.div_le_self _ _) (by omega)
      iterate 1 refine ax_one M hnm htab hrm rfl rfl (Nat.zero_le _) (Nat.zero_le _) ?_
      refine ax_if2 M (tgt := 134) dd_X11_times_62 (by decide) (fun hc => ?_) (fun hc => ?_)
      · have hz : n / 2 ^ i = 0 := by
          rcases Nat.eq_zero_or_pos (n / 2 ^ i) with q | q
          · exact q
          · exact absurd hc (nI_nle q hq)
        have hi : i = tw_hv n := by
          rcases Nat.lt_or_ge i (tw_hv n) with q | q
          · have := tw_hv_iff.mp q; omega
          · omega
        subst hi
        exact b134 hw _ _
      · have hp : 0 < n / 2 ^ i := by
          rcases Nat.eq_zero_or_pos (n / 2 ^ i) with q | q
          · exact absurd (show nI (n / 2 ^ i) ≤ 0 by rw [q]; decide) hc
          · exact q
        have hi : i < tw_hv n := tw_hv_iff.mpr hp
        have b113 : ∀ (x : Int32), nI (tw_sum n k i) + x = nI (tw_sum n k (i + 1)) → ax_W G p l e (ax_rm (d + 2) 0 0) s m args below meth c (MQ below (ax_Qc G (some (.int (tw_T (nI n) (nI k) w))) (ax_hget h) N) args s 0 0 (fun q => G.2.1 ≤ q)) 9 113 [(8, .int (tw_told w n k (i + 1))), (7, .int (nI (k * 2 ^ i))), (6, .int (nI (n / 2 ^ i))), (5, .int (nI i)), (4, .int (nI (tw_sum n k i))), (0, .ref k0), (1, .int (nI n)), (2, .int (nI k)), (3, .int w)] [.int x, .int (nI (tw_sum n k i))] (ax_hget h) N 0 0 := by
          intro x hx
          iterate 12 refine ax_one M hnm htab hrm rfl rfl (Nat.zero_le _) (Nat.zero_le _) ?_
          have := ih (i + 1) hi (by omega)
          have q1 : nI i + Int32.ofInt 1 = nI (i + 1) := nI_1 i
          have q2 : nI (n / 2 ^ i) / Int32.ofInt 2 = nI (n / 2 ^ (i + 1)) := by
            rw [show Int32.ofInt 2 = nI 2 from rfl, pk_div hq (by decide) (by decide), tw_half]
          have q3 : nI (k * 2 ^ i) * Int32.ofInt 2 = nI (k * 2 ^ (i + 1)) := by
            rw [show Int32.ofInt 2 = nI 2 from rfl, pk_mul, Nat.pow_succ, Nat.mul_assoc]
          rw [← q1, ← q2, ← q3, ← hx] at this
          exact ax_lvp [4, 0, 1, 2, 3, 5, 6, 7, 8] rfl this
        have b95 : ∀ (t : Int32), t = tw_told w n k (i + 1) → ax_W G p l e (ax_rm (d + 2) 0 0) s m args below meth c (MQ below (ax_Qc G (some (.int (tw_T (nI n) (nI k) w))) (ax_hget h) N) args s 0 0 (fun q => G.2.1 ≤ q)) 9 95 [(8, .int (tw_told w n k i)), (7, .int (nI (k * 2 ^ i))), (6, .int (nI (n / 2 ^ i))), (5, .int (nI i)), (4, .int (nI (tw_sum n k i))), (0, .ref k0), (1, .int (nI n)), (2, .int (nI k)), (3, .int w)] [.int t] (ax_hget h) N 0 0 := by
          intro t ht
          subst ht
          iterate 6 refine ax_one M hnm htab hrm rfl rfl (Nat.zero_le _) (Nat.zero_le _) ?_
          have hrem : nI (n / 2 ^ i) - nI (n / 2 ^ i) / Int32.ofInt 2 * Int32.ofInt 2 = nI (n / 2 ^ i % 2) := pk_rem hq (by decide) (by decide)
          refine ax_icmp2 M (tgt := 112) dd_X11_times_104 (by decide) (fun hc2 => ?_) (fun hc2 => ?_)
          · have hb0 : ¬ n / 2 ^ i % 2 = 1 := fun q => hc2 (show nI (n / 2 ^ i) - nI (n / 2 ^ i) / Int32.ofInt 2 * Int32.ofInt 2 = 1 by rw [hrem, q]; rfl)
            iterate 1 refine ax_one M hnm htab hrm rfl rfl (Nat.zero_le _) (Nat.zero_le _) ?_
            exact b113 _ (by rw [tw_sum, if_neg hb0, Nat.add_zero]; exact Int32.add_zero _)
          · have hb1 : n / 2 ^ i % 2 = 1 := by
              have hlt : n / 2 ^ i % 2 < 2 := Nat.mod_lt _ (by decide)
              rcases (show n / 2 ^ i % 2 = 0 ∨ n / 2 ^ i % 2 = 1 by omega) with q | q
              · exact absurd (show ¬ nI (n / 2 ^ i) - nI (n / 2 ^ i) / Int32.ofInt 2 * Int32.ofInt 2 = 1 by rw [hrem, q]; decide) hc2
              · exact q
            iterate 2 refine ax_one M hnm htab hrm rfl rfl (Nat.zero_le _) (Nat.zero_le _) ?_
            exact b113 _ (by rw [tw_sum, if_pos hb1, nI_add])
        iterate 4 refine ax_one M hnm htab hrm rfl rfl (Nat.zero_le _) (Nat.zero_le _) ?_
        refine ax_icmp2 M (tgt := 79) dd_X11_times_71 (by decide) (fun hc3 => ?_) (fun hc3 => ?_)
        · have g3 : ¬ w = nI 10 + nI i := by rw [← e10]; exact hc3
          iterate 4 refine ax_one M hnm htab hrm rfl rfl (Nat.zero_le _) (Nat.zero_le _) ?_
          refine ax_icmp2 M (tgt := 93) dd_X11_times_85 (by decide) (fun hc4 => ?_) (fun hc4 => ?_)
          · have g4 : ¬ w = nI 30 + nI i := by rw [← e30]; exact hc4
            iterate 1 refine ax_one M hnm htab hrm rfl rfl (Nat.zero_le _) (Nat.zero_le _) ?_
            exact b95 _ (by rw [tw_told, if_neg g3, if_neg g4])
          · have g4 : w = nI 30 + nI i := by rw [← e30]; exact Classical.byContradiction hc4
            iterate 2 refine ax_one M hnm htab hrm rfl rfl (Nat.zero_le _) (Nat.zero_le _) ?_
            exact b95 _ (by rw [tw_told, if_neg g3, if_pos g4])
        · have g3 : w = nI 10 + nI i := by rw [← e10]; exact Classical.byContradiction hc3
          iterate 2 refine ax_one M hnm htab hrm rfl rfl (Nat.zero_le _) (Nat.zero_le _) ?_
          exact b95 _ (by rw [tw_told, if_pos g3])
  have b45 : ∀ (hw : w = 0 ∨ w = 1 ∨ (nI 10 ≤ w ∧ w ≤ nI 49)), ax_W G p l e (ax_rm (d + 2) 0 0) s m args below meth c (MQ below (ax_Qc G (some (.int (tw_T (nI n) (nI k) w))) (ax_hget h) N) args s 0 0 (fun q => G.2.1 ≤ q)) 9 45 [(0, .ref k0), (1, .int (nI n)), (2, .int (nI k)), (3, .int w)] [] (ax_hget h) N 0 0 := by
    intro hw
    iterate 10 refine ax_one M hnm htab hrm rfl rfl (Nat.zero_le _) (Nat.zero_le _) ?_
    have := loop hw (tw_hv n + 1) 0 (Nat.zero_le _) (by omega)
    rw [Nat.pow_zero, Nat.div_one, Nat.mul_one] at this
    exact this
  iterate 3 refine ax_one M hnm htab hrm rfl rfl (Nat.zero_le _) (Nat.zero_le _) ?_
  refine ax_inv_ok mu_ok M (ax_ok_at htab (pc := 25) rfl) (q := (ut_X11_in, [.int w, .int (Int32.ofInt 0), .int (Int32.ofInt 1)], [])) rfl (o := (some (.int (if (Int32.ofInt 0) ≤ w ∧ w ≤ (Int32.ofInt 1) then 1 else 0)), h, N)) (fun _ => tw_in (d := d) _ _ _) (Nat.le_refl _) (Nat.le_refl _) (Nat.le_refl _) (Nat.le_refl _) ?_ (fun q => by cases q)
  refine ax_if2 M (tgt := 45) dd_X11_times_28 (by decide) (fun c3 => b45 ?_) (fun c3 => ?_)
  · have c3' : Int32.ofInt 0 ≤ w ∧ w ≤ Int32.ofInt 1 := Classical.byContradiction (fun z => c3 (tw_ite0.mpr z))
    have z0 : (0 : Int) ≤ w.toInt := by have := c3'.1; rw [Int32.le_iff_toInt_le] at this; exact this
    have z1 : w.toInt ≤ 1 := by have := c3'.2; rw [Int32.le_iff_toInt_le] at this; exact this
    rcases (show w.toInt = 0 ∨ w.toInt = 1 by omega) with q | q
    · exact Or.inl (Int32.toInt_inj.mp q)
    · exact Or.inr (Or.inl (Int32.toInt_inj.mp q))
  have c3' : ¬ (Int32.ofInt 0 ≤ w ∧ w ≤ Int32.ofInt 1) := tw_ite0.mp (Classical.byContradiction c3)
  iterate 3 refine ax_one M hnm htab hrm rfl rfl (Nat.zero_le _) (Nat.zero_le _) ?_
  refine ax_inv_ok mu_ok M (ax_ok_at htab (pc := 36) rfl) (q := (ut_X11_in, [.int w, .int (Int8.ofInt 10).toInt32, .int (Int8.ofInt 49).toInt32], [])) rfl (o := (some (.int (if (Int8.ofInt 10).toInt32 ≤ w ∧ w ≤ (Int8.ofInt 49).toInt32 then 1 else 0)), h, N)) (fun _ => tw_in (d := d) _ _ _) (Nat.le_refl _) (Nat.le_refl _) (Nat.le_refl _) (Nat.le_refl _) ?_ (fun q => by cases q)
  refine ax_if2 M (tgt := 45) dd_X11_times_39 (by decide) (fun c4 => b45 ?_) (fun c4 => out ?_ _)
  · have c4' : (Int8.ofInt 10).toInt32 ≤ w ∧ w ≤ (Int8.ofInt 49).toInt32 := Classical.byContradiction (fun z => c4 (tw_ite0.mpr z))
    rw [e10, e49] at c4'
    exact Or.inr (Or.inr c4')
  · have c4' : ¬ ((Int8.ofInt 10).toInt32 ≤ w ∧ w ≤ (Int8.ofInt 49).toInt32) := tw_ite0.mp (Classical.byContradiction c4)
    rw [e10, e49] at c4'
    rw [hT0]
    have z1 : ¬ w = 0 := fun q => c3' (by rw [q]; decide)
    have z2 : ¬ w = 1 := fun q => c3' (by rw [q]; decide)
    have z3 : ¬ (10 ≤ w ∧ w < 30) := fun q => c4' ⟨q.1, by rw [Int32.le_iff_toInt_le]; have := q.2; rw [Int32.lt_iff_toInt_lt] at this; have y1 : (nI 49).toInt = 49 := rfl; have y2 : (30 : Int32).toInt = 30 := rfl; omega⟩
    have z4 : ¬ (30 ≤ w ∧ w < 50) := fun q => c4' ⟨by rw [Int32.le_iff_toInt_le]; have := q.1; rw [Int32.le_iff_toInt_le] at this; have y1 : (nI 10).toInt = 10 := rfl; have y2 : (30 : Int32).toInt = 30 := rfl; omega, by rw [Int32.le_iff_toInt_le]; have := q.2; rw [Int32.lt_iff_toInt_lt] at this; have y1 : (nI 49).toInt = 49 := rfl; have y2 : (50 : Int32).toInt = 50 := rfl; omega⟩
    rw [if_neg z1, if_neg z2, if_neg z3, if_neg z4]
end TWR
