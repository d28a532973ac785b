/-! ===== parts: the class and the reference answer alike ===== -/
def pt_T (a b w : Int32) : Int32 :=
  if a < 0 ∨ 9999 < a ∨ b < 1 ∨ 9999 < b then -102
  else if w = 0 then nI (pt_gq b.toNatClampNeg (tw_hv (a.toNatClampNeg / b.toNatClampNeg)) a.toNatClampNeg 0).2
  else if w = 1 then nI (pt_gq b.toNatClampNeg (tw_hv (a.toNatClampNeg / b.toNatClampNeg)) a.toNatClampNeg 0).1
  else if w = 2 then nI (tw_hv (a.toNatClampNeg / b.toNatClampNeg))
  else if w = 3 then nI (pt_gq b.toNatClampNeg (tw_hv (a.toNatClampNeg / b.toNatClampNeg)) a.toNatClampNeg 0).2
  else -102
theorem pt_rng {a : Int32} (h1 : ¬ a < 0) (h2 : ¬ 9999 < a) : ∃ n : Nat, n ≤ 9999 ∧ a = nI n := by
  obtain ⟨j, hj, rfl⟩ := nI_of h1
  rw [Int32.lt_iff_toInt_lt, nI_toInt hj] at h2
  have e2 : (9999 : Int32).toInt = 9999 := rfl
  exact ⟨j, by omega, rfl⟩
theorem pt_left {n k : Nat} : nI n - nI (pt_gq k (tw_hv (n / k)) n 0).2 * nI k = nI (pt_gq k (tw_hv (n / k)) n 0).1 := by
  have h1 := pt_gq_sum (b := k) (n := n) (tw_hv (n / k)) n 0 (by rw [Nat.zero_mul, Nat.add_zero])
  rw [pk_mul, pk_sub (by omega)]
  congr 1
  omega
theorem pt_out4 {w : Int32} (g0 : ¬ w = 0) (g1 : ¬ w = 1) (g2 : ¬ w = 2) (g3 : ¬ w = 3) : w.toInt < 0 ∨ 3 < w.toInt := by
  have h0 : w.toInt ≠ 0 := fun q => g0 (Int32.toInt_inj.mp q)
  have h1 : w.toInt ≠ 1 := fun q => g1 (Int32.toInt_inj.mp q)
  have h2 : w.toInt ≠ 2 := fun q => g2 (Int32.toInt_inj.mp q)
  have h3 : w.toInt ≠ 3 := fun q => g3 (Int32.toInt_inj.mp q)
  omega
section PTC
variable {l : Launch} {G : ax_T} {h : ax_H} {N d k0 : Nat}
theorem ax_tableOut2 {G : ax_T} {p : Program} {l : Launch} {e : Env} {R : Room} {s : State} {m : MethodId} {args : Array Value} {below : List Frame} {meth : Method} {c : Code} {Q : State → Prop} {own : String} {cc : ByteArray} {nL pc n cs ss len : Nat} {lv : List (Nat × Value)} {st : List Value} {g : Nat → Option ax_C} (M : ax_M G p s m args meth c own cc nL) {dflt lo hi : Int} {offs : Array Int} {x : Int32} {tgt : Nat} (hd : decode cc pc = .ok (.tableswitch dflt lo hi offs, len)) (hx : x.toInt < lo ∨ hi < x.toInt) (ht : (pc : Int) + dflt = (tgt : Int))
    (kk : ax_W G p l e R s m args below meth c Q nL tgt lv st g n cs ss) : ax_W G p l e R s m args below meth c Q nL pc lv (.int x :: st) g n cs ss :=
  fun ls H locs hl hR hL => lv_tableOut M.1 M.2.1 hd hx ht (kk ls H locs hl hR hL)
set_option maxHeartbeats 1000000 in
theorem pt_parts (a b w : Int32) : ax_Met l G yX10_parts cX10_parts 5 (some .int) (d + 3) [.ref k0, .int a, .int b, .int w] (ax_hget h) N (some (.int (pt_T a b w))) (ax_hget h) N 0 0 := by
  refine ax_met_of (by decide +kernel) (Nat.le_of_ble_eq_true rfl) ?_
  intro p e s m args below meth c M hnm hrt
  have htab : ∀ ch ∈ ut_X10_parts.2.2.2.2.2.2.2.2, ∀ en ∈ ch, ax_Ok mu_prog RX10 "parts" cX10_parts en.1 en.2.1 en.2.2.1 en.2.2.2.1 := vk_X10_parts.2.2.2
  have hrm : 1 ≤ (ax_rm (d + 3) 0 0).frames ∧ 40 ≤ (ax_rm (d + 3) 0 0).locals := ⟨Nat.le_add_left 1 (d + 2), by show 40 ≤ 40 * (d + 3); omega⟩
  have out : ∀ (hT : pt_T a b w = -102) (lv : List (Nat × Value)), ax_W G p l e (ax_rm (d + 3) 0 0) s m args below meth c (MQ below (ax_Qc G (some (.int (pt_T a b w))) (ax_hget h) N) args s 0 0 (fun q => G.2.1 ≤ q)) 5 23 lv [] (ax_hget h) N 0 0 := by
    intro hT lv
    iterate 1 refine ax_one M hnm htab hrm rfl rfl (Nat.zero_le _) (Nat.zero_le _) ?_
    rw [hT]
    exact ax_ret_ok M hrt dd_X10_parts_25 (Or.inr rfl) rfl rfl (Nat.le_refl 0) (Nat.le_refl 0)
  iterate 1 refine ax_one M hnm htab hrm rfl rfl (Nat.zero_le _) (Nat.zero_le _) ?_
  refine ax_if2 M (tgt := 23) dd_X10_parts_1 (by decide) (fun c1 => out (if_pos (Or.inl c1)) _) (fun c1 => ?_)
  iterate 2 refine ax_one M hnm htab hrm rfl rfl (Nat.zero_le _) (Nat.zero_le _) ?_
  refine ax_icmp2 M (tgt := 23) dd_X10_parts_8 (by decide) (fun c2 => out (if_pos (Or.inr (Or.inl c2))) _) (fun c2 => ?_)
  iterate 2 refine ax_one M hnm htab hrm rfl rfl (Nat.zero_le _) (Nat.zero_le _) ?_
  refine ax_icmp2 M (tgt := 23) dd_X10_parts_13 (by decide) (fun c3 => out (if_pos (Or.inr (Or.inr (Or.inl c3)))) _) (fun c3 => ?_)
  iterate 2 refine ax_one M hnm htab hrm rfl rfl (Nat.zero_le _) (Nat.zero_le _) ?_
  refine ax_icmp2 M (tgt := 26) dd_X10_parts_20 (by decide) (fun c4 => ?_) (fun c4 => out (if_pos (Or.inr (Or.inr (Or.inr (Int32.not_le.mp c4))))) _)
  have c4' : ¬ 9999 < b := Int32.not_lt.mpr c4
  have hin : ¬ (a < 0 ∨ 9999 < a ∨ b < 1 ∨ 9999 < b) := by
    rintro (q | q | q | q)
    · exact c1 q
    · exact c2 q
    · exact c3 q
    · exact c4' q
  obtain ⟨n, hn2, rfl⟩ := pt_rng c1 c2
  obtain ⟨k, hk1, hk2, rfl⟩ := tw_rng c3 c4'
  have en : (nI n).toNatClampNeg = n := nI_clamp (by omega)
  have ek : (nI k).toNatClampNeg = k := nI_clamp (by omega)
  have hT0 : pt_T (nI n) (nI k) w = if w = 0 then nI (pt_gq k (tw_hv (n / k)) n 0).2 else if w = 1 then nI (pt_gq k (tw_hv (n / k)) n 0).1 else if w = 2 then nI (tw_hv (n / k)) else if w = 3 then nI (pt_gq k (tw_hv (n / k)) n 0).2 else -102 := by
    unfold pt_T; rw [if_neg hin, en, ek]
  iterate 2 refine ax_one M hnm htab hrm rfl rfl (Nat.zero_le _) (Nat.zero_le _) ?_
  refine ax_inv_ok mu_ok M (ax_ok_at htab (pc := 28) rfl) (q := (ut_X10_linesTaken, [.int (nI n), .int (nI k)], [])) rfl (o := (some (.int (nI (pt_gq k (tw_hv (n / k)) n 0).2)), h, N)) (fun _ => pt_lines (d := d) n k (by omega) (by omega) (by omega)) (Nat.le_refl _) (Nat.le_refl _) (Nat.le_refl _) (Nat.le_refl _) ?_ (fun q => by cases q)
  iterate 2 refine ax_one M hnm htab hrm rfl rfl (Nat.zero_le _) (Nat.zero_le _) ?_
  rcases Classical.em (w = 0) with rfl | g0
  · rw [if_pos rfl] at hT0
    iterate 2 refine ax_one M hnm htab hrm rfl rfl (Nat.zero_le _) (Nat.zero_le _) ?_
    rw [hT0]
    exact ax_ret_ok M hrt dd_X10_parts_66 (Or.inr rfl) rfl rfl (Nat.le_refl 0) (Nat.le_refl 0)
  rcases Classical.em (w = 1) with rfl | g1
  · rw [if_neg (by decide), if_pos rfl, ← pt_left] at hT0
    iterate 6 refine ax_one M hnm htab hrm rfl rfl (Nat.zero_le _) (Nat.zero_le _) ?_
    rw [hT0]
    exact ax_ret_ok M hrt dd_X10_parts_73 (Or.inr rfl) rfl rfl (Nat.le_refl 0) (Nat.le_refl 0)
  rcases Classical.em (w = 2) with rfl | g2
  · rw [if_neg (by decide), if_neg (by decide), if_pos rfl] at hT0
    iterate 3 refine ax_one M hnm htab hrm rfl rfl (Nat.zero_le _) (Nat.zero_le _) ?_
    refine ax_inv_ok mu_ok M (ax_ok_at htab (pc := 76) rfl) (q := (ut_X10_doublings, [.int (nI n), .int (nI k)], [])) rfl (o := (some (.int (nI (tw_hv (n / k)))), h, N)) (fun _ => pt_doublings (d := d + 1) n k (by omega) (by omega) (by omega)) (Nat.le_refl _) (Nat.le_refl _) (Nat.le_refl _) (Nat.le_refl _) ?_ (fun q => by cases q)
    rw [hT0]
    exact ax_ret_ok M hrt dd_X10_parts_79 (Or.inr rfl) rfl rfl (Nat.le_refl 0) (Nat.le_refl 0)
  rcases Classical.em (w = 3) with rfl | g3
  · rw [if_neg (by decide), if_neg (by decide), if_neg (by decide), if_pos rfl] at hT0
    iterate 2 refine ax_one M hnm htab hrm rfl rfl (Nat.zero_le _) (Nat.zero_le _) ?_
    rw [hT0]
    exact ax_ret_ok M hrt dd_X10_parts_82 (Or.inr rfl) rfl rfl (Nat.le_refl 0) (Nat.le_refl 0)
  rw [if_neg g0, if_neg g1, if_neg g2, if_neg g3] at hT0
  refine ax_tableOut2 M (tgt := 83) dd_X10_parts_34 (pt_out4 g0 g1 g2 g3) (by decide) ?_
  iterate 1 refine ax_one M hnm htab hrm rfl rfl (Nat.zero_le _) (Nat.zero_le _) ?_
  rw [hT0]
  exact ax_ret_ok M hrt dd_X10_parts_85 (Or.inr rfl) rfl rfl (Nat.le_refl 0) (Nat.le_refl 0)
end PTC
section PTR
variable {l : Launch} {G : ax_T} {h : ax_H} {N d k0 : Nat}
set_option maxHeartbeats 1000000 in
theorem pt_partsM (a b w : Int32) : ax_Met l G yX11_parts cX11_parts 8 (some .int) (d + 2) [.ref k0, .int a, .int b, .int w] (ax_hget h) N (some (.int (pt_T a b w))) (ax_hget h) N 0 0 := by
  refine ax_met_of (by decide +kernel) (Nat.le_of_ble_eq_true rfl) ?_
  intro p e s m args below meth c M hnm hrt
  have htab : ∀ ch ∈ ut_X11_parts.2.2.2.2.2.2.2.2, ∀ en ∈ ch, ax_Ok mu_prog RX11 "parts" cX11_parts en.1 en.2.1 en.2.2.1 en.2.2.2.1 := vk_X11_parts.2.2.2
  have hrm : 1 ≤ (ax_rm (d + 2) 0 0).frames ∧ 40 ≤ (ax_rm (d + 2) 0 0).locals := ⟨Nat.le_add_left 1 (d + 1), by show 40 ≤ 40 * (d + 2); omega⟩
  have e0 : Int32.ofInt 0 = (0 : Int32) := by decide
  have e1 : Int32.ofInt 1 = (1 : Int32) := by decide
  have e3 : Int32.ofInt 3 = (3 : Int32) := by decide
  have e9999 : (Int16.ofInt 9999).toInt32 = (9999 : Int32) := by decide
  have out : ∀ (hT : pt_T a b w = -102) (lv : List (Nat × Value)), ax_W G p l e (ax_rm (d + 2) 0 0) s m args below meth c (MQ below (ax_Qc G (some (.int (pt_T a b w))) (ax_hget h) N) args s 0 0 (fun q => G.2.1 ≤ q)) 8 31 lv [] (ax_hget h) N 0 0 := by
    intro hT lv
    iterate 1 refine ax_one M hnm htab hrm rfl rfl (Nat.zero_le _) (Nat.zero_le _) ?_
    rw [hT]
    exact ax_ret_ok M hrt dd_X11_parts_33 (Or.inr rfl) rfl rfl (Nat.le_refl 0) (Nat.le_refl 0)
  iterate 3 refine ax_one M hnm htab hrm rfl rfl (Nat.zero_le _) (Nat.zero_le _) ?_
  refine ax_inv_ok mu_ok M (ax_ok_at htab (pc := 5) rfl) (q := (ut_X11_in, [.int a, .int (Int32.ofInt 0), .int (Int16.ofInt 9999).toInt32], [])) rfl (o := (some (.int (if (Int32.ofInt 0) ≤ a ∧ a ≤ (Int16.ofInt 9999).toInt32 then 1 else 0)), h, N)) (fun _ => tw_in (d := d) _ _ _) (Nat.le_refl _) (Nat.le_refl _) (Nat.le_refl _) (Nat.le_refl _) ?_ (fun q => by cases q)
  refine ax_if2 M (tgt := 31) dd_X11_parts_8 (by decide) (fun c1 => out ?_ _) (fun c1 => ?_)
  · have c1' : ¬ (0 ≤ a ∧ a ≤ 9999) := by rw [← e0, ← e9999]; exact tw_ite0.mp c1
    refine if_pos ?_
    rcases Classical.em (a < 0) with q | q
    · exact Or.inl q
    · exact Or.inr (Or.inl (Int32.not_le.mp (fun z => c1' ⟨Int32.not_lt.mp q, z⟩)))
  have c1' : 0 ≤ a ∧ a ≤ 9999 := by rw [← e0, ← e9999]; exact Classical.byContradiction (fun z => c1 (tw_ite0.mpr z))
  iterate 3 refine ax_one M hnm htab hrm rfl rfl (Nat.zero_le _) (Nat.zero_le _) ?_
  refine ax_inv_ok mu_ok M (ax_ok_at htab (pc := 16) rfl) (q := (ut_X11_in, [.int b, .int (Int32.ofInt 1), .int (Int16.ofInt 9999).toInt32], [])) rfl (o := (some (.int (if (Int32.ofInt 1) ≤ b ∧ b ≤ (Int16.ofInt 9999).toInt32 then 1 else 0)), h, N)) (fun _ => tw_in (d := d) _ _ _) (Nat.le_refl _) (Nat.le_refl _) (Nat.le_refl _) (Nat.le_refl _) ?_ (fun q => by cases q)
  refine ax_if2 M (tgt := 31) dd_X11_parts_19 (by decide) (fun c2 => out ?_ _) (fun c2 => ?_)
  · have c2' : ¬ (1 ≤ b ∧ b ≤ 9999) := by rw [← e1, ← e9999]; exact tw_ite0.mp c2
    refine if_pos ?_
    rcases Classical.em (b < 1) with q | q
    · exact Or.inr (Or.inr (Or.inl q))
    · exact Or.inr (Or.inr (Or.inr (Int32.not_le.mp (fun z => c2' ⟨Int32.not_lt.mp q, z⟩))))
  have c2' : 1 ≤ b ∧ b ≤ 9999 := by rw [← e1, ← e9999]; exact Classical.byContradiction (fun z => c2 (tw_ite0.mpr z))
  have hin : ¬ (a < 0 ∨ 9999 < a ∨ b < 1 ∨ 9999 < b) := by
    rintro (q | q | q | q)
    · exact absurd c1'.1 (Int32.not_le.mpr q)
    · exact absurd c1'.2 (Int32.not_le.mpr q)
    · exact absurd c2'.1 (Int32.not_le.mpr q)
    · exact absurd c2'.2 (Int32.not_le.mpr q)
  obtain ⟨n, hn2, rfl⟩ := pt_rng (Int32.not_lt.mpr c1'.1) (Int32.not_lt.mpr c1'.2)
  obtain ⟨k, hk1, hk2, rfl⟩ := tw_rng (Int32.not_lt.mpr c2'.1) (Int32.not_lt.mpr c2'.2)
  have en : (nI n).toNatClampNeg = n := nI_clamp (by omega)
  have ek : (nI k).toNatClampNeg = k := nI_clamp (by omega)
  have hle := pt_le (n := n) (b := k) (by omega)
  have hT0 : pt_T (nI n) (nI k) w = if w = 0 then nI (pt_gq k (tw_hv (n / k)) n 0).2 else if w = 1 then nI (pt_gq k (tw_hv (n / k)) n 0).1 else if w = 2 then nI (tw_hv (n / k)) else if w = 3 then nI (pt_gq k (tw_hv (n / k)) n 0).2 else -102 := by
    unfold pt_T; rw [if_neg hin, en, ek]
  have b108 : ∀ (hw : w = 0 ∨ w = 1 ∨ w = 2 ∨ w = 3) (x7 : Int32), ax_W G p l e (ax_rm (d + 2) 0 0) s m args below meth c (MQ below (ax_Qc G (some (.int (pt_T (nI n) (nI k) w))) (ax_hget h) N) args s 0 0 (fun q => G.2.1 ≤ q)) 8 108 [(7, .int x7), (6, .int (nI (pt_gq k (tw_hv (n / k)) n 0).2)), (5, .int (nI (pt_gq k (tw_hv (n / k)) n 0).1)), (4, .int (nI (tw_hv (n / k)))), (0, .ref k0), (1, .int (nI n)), (2, .int (nI k)), (3, .int w)] [] (ax_hget h) N 0 0 := by
    intro hw x7
    iterate 1 refine ax_one M hnm htab hrm rfl rfl (Nat.zero_le _) (Nat.zero_le _) ?_
    refine ax_if2 M (tgt := 117) dd_X11_parts_109 (by decide) (fun c5 => ?_) (fun c5 => ?_)
    · have g0 : ¬ w = 0 := c5
      iterate 2 refine ax_one M hnm htab hrm rfl rfl (Nat.zero_le _) (Nat.zero_le _) ?_
      refine ax_icmp2 M (tgt := 127) dd_X11_parts_119 (by decide) (fun c6 => ?_) (fun c6 => ?_)
      · have g1 : ¬ w = 1 := c6
        iterate 2 refine ax_one M hnm htab hrm rfl rfl (Nat.zero_le _) (Nat.zero_le _) ?_
        refine ax_icmp2 M (tgt := 137) dd_X11_parts_129 (by decide) (fun c7 => ?_) (fun c7 => ?_)
        · have g2 : ¬ w = 2 := c7
          have g3 : w = 3 := by
            rcases hw with q | q | q | q
            · exact absurd q g0
            · exact absurd q g1
            · exact absurd q g2
            · exact q
          rw [if_neg g0, if_neg g1, if_neg g2, if_pos g3] at hT0
          iterate 1 refine ax_one M hnm htab hrm rfl rfl (Nat.zero_le _) (Nat.zero_le _) ?_
          rw [hT0]
          exact ax_ret_ok M hrt dd_X11_parts_139 (Or.inr rfl) rfl rfl (Nat.le_refl 0) (Nat.le_refl 0)
        · have g2 : w = 2 := Classical.byContradiction c7
          rw [if_neg g0, if_neg g1, if_pos g2] at hT0
          iterate 2 refine ax_one M hnm htab hrm rfl rfl (Nat.zero_le _) (Nat.zero_le _) ?_
          rw [hT0]
          exact ax_ret_ok M hrt dd_X11_parts_139 (Or.inr rfl) rfl rfl (Nat.le_refl 0) (Nat.le_refl 0)
      · have g1 : w = 1 := Classical.byContradiction c6
        rw [if_neg g0, if_pos g1] at hT0
        iterate 2 refine ax_one M hnm htab hrm rfl rfl (Nat.zero_le _) (Nat.zero_le _) ?_
        rw [hT0]
        exact ax_ret_ok M hrt dd_X11_parts_139 (Or.inr rfl) rfl rfl (Nat.le_refl 0) (Nat.le_refl 0)
    · have g0 : w = 0 := Classical.byContradiction c5
      rw [if_pos g0] at hT0
      iterate 2 refine ax_one M hnm htab hrm rfl rfl (Nat.zero_le _) (Nat.zero_le _) ?_
      rw [hT0]
      exact ax_ret_ok M hrt dd_X11_parts_139 (Or.inr rfl) rfl rfl (Nat.le_refl 0) (Nat.le_refl 0)
  have loop2 : ∀ (hw : w = 0 ∨ w = 1 ∨ w = 2 ∨ w = 3) (j left q : Nat), j ≤ 14 → left ≤ n → pt_gq k j left (2 ^ j * q) = pt_gq k (tw_hv (n / k)) n 0 → ax_W G p l e (ax_rm (d + 2) 0 0) s m args below meth c (MQ below (ax_Qc G (some (.int (pt_T (nI n) (nI k) w))) (ax_hget h) N) args s 0 0 (fun q => G.2.1 ≤ q)) 8 70 [(7, .int (nI j - 1)), (6, .int (nI (2 ^ j * q))), (5, .int (nI left)), (4, .int (nI (tw_hv (n / k)))), (0, .ref k0), (1, .int (nI n)), (2, .int (nI k)), (3, .int w)] [] (ax_hget h) N 0 0 := by
    intro hw j
    induction j with
    | zero =>
      intro left q hj hl hg
      iterate 1 refine ax_one M hnm htab hrm rfl rfl (Nat.zero_le _) (Nat.zero_le _) ?_
      refine ax_if2 M (tgt := 108) dd_X11_parts_72 (by decide) (fun c1 => ?_) (fun c1 => absurd (show nI 0 - 1 < 0 by decide) c1)
      have h1 : (pt_gq k (tw_hv (n / k)) n 0).1 = left := by rw [← hg]; rfl
      have h2 : (pt_gq k (tw_hv (n / k)) n 0).2 = 2 ^ 0 * q := by rw [← hg]; rfl
      rw [← h1, ← h2]
      exact b108 hw _
    | succ j ih =>
      intro left q hj hl hg
      have ej : nI (j + 1) - 1 = nI j := nI_pred j
      rw [ej]
      have esh := pt_shl (b := k) (i := j) (by omega) (by omega)
      have hbd := pt_bd (b := k) (i := j) (by omega) (by omega)
      iterate 1 refine ax_one M hnm htab hrm rfl rfl (Nat.zero_le _) (Nat.zero_le _) ?_
      refine ax_if2 M (tgt := 108) dd_X11_parts_72 (by decide) (fun c1 => absurd c1 (nI_pos (by omega))) (fun c1 => ?_)
      iterate 4 refine ax_one M hnm htab hrm rfl rfl (Nat.zero_le _) (Nat.zero_le _) ?_
      have edec : nI j + Int32.ofInt (-1) = nI j - 1 := by rw [show Int32.ofInt (-1) = (-1 : Int32) from rfl, Int32.sub_eq_add_neg]
      have e2q : 2 ^ (j + 1) * q = 2 ^ j * (2 * q) := by rw [Nat.pow_succ, Nat.mul_assoc]
      refine ax_icmp2 M (tgt := 102) dd_X11_parts_81 (by decide) (fun c2 => ?_) (fun c2 => ?_)
      · have c2' : nI left < nI (k * 2 ^ j) := esh ▸ (show nI left < nI k <<< (nI j &&& 31) from c2)
        rw [nI_ltI (by omega) hbd] at c2'
        rw [pt_gq, if_neg (by omega)] at hg
        iterate 2 refine ax_one M hnm htab hrm rfl rfl (Nat.zero_le _) (Nat.zero_le _) ?_
        have := ih left (2 * q) (by omega) hl (by rw [← e2q]; exact hg)
        rw [← e2q, ← edec] at this
        exact this
      · have c2' : ¬ nI left < nI (k * 2 ^ j) := fun q => c2 (show nI left < nI k <<< (nI j &&& 31) by rw [esh]; exact q)
        rw [nI_ltI (by omega) hbd] at c2'
        rw [pt_gq, if_pos (by omega)] at hg
        have q1 : nI left - (nI k <<< (nI j &&& 31)) = nI (left - k * 2 ^ j) := by rw [esh]; exact pk_sub (by omega)
        have q3 : nI 1 <<< (nI j &&& 31) = nI (2 ^ j) := by rw [pt_shl (b := 1) (i := j) (by decide) (by omega), Nat.one_mul]
        have q4 : nI (2 ^ (j + 1) * q) ||| (Int32.ofInt 1 <<< (nI j &&& 31)) = nI (2 ^ j * (2 * q + 1)) := by
          rw [show Int32.ofInt 1 = nI 1 from rfl, q3, pt_bits, e2q, Nat.mul_add, Nat.mul_one]
        iterate 14 refine ax_one M hnm htab hrm rfl rfl (Nat.zero_le _) (Nat.zero_le _) ?_
        have := ih (left - k * 2 ^ j) (2 * q + 1) (by omega) (by omega) (by rw [Nat.mul_add, Nat.mul_one, ← e2q]; exact hg)
        rw [← q4, ← q1, ← edec] at this
        exact this
  have loop1 : ∀ (hw : w = 0 ∨ w = 1 ∨ w = 2 ∨ w = 3) (f i : Nat), i ≤ tw_hv (n / k) → tw_hv (n / k) < i + f → ax_W G p l e (ax_rm (d + 2) 0 0) s m args below meth c (MQ below (ax_Qc G (some (.int (pt_T (nI n) (nI k) w))) (ax_hget h) N) args s 0 0 (fun q => G.2.1 ≤ q)) 8 40 [(5, .int (nI (k * 2 ^ i))), (4, .int (nI i)), (0, .ref k0), (1, .int (nI n)), (2, .int (nI k)), (3, .int w)] [] (ax_hget h) N 0 0 := by
    intro hw f
    induction f with
    | zero => intro i h1 h2; omega
    | succ f ih =>
      intro i h1 h2
      have hbd := pt_bd (b := k) (i := i) (by omega) (by omega)
      iterate 2 refine ax_one M hnm htab hrm rfl rfl (Nat.zero_le _) (Nat.zero_le _) ?_
      refine ax_icmp2 M (tgt := 58) dd_X11_parts_43 (by decide) (fun c2 => ?_) (fun c2 => ?_)
      · have c2' : nI n < nI (k * 2 ^ i) := c2
        rw [nI_ltI (by omega) hbd] at c2'
        have hi : i = tw_hv (n / k) := by
          rcases Nat.lt_or_ge i (tw_hv (n / k)) with q | q
          · have := (pt_iff (by omega)).mp q; omega
          · omega
        subst hi
        iterate 8 refine ax_one M hnm htab hrm rfl rfl (Nat.zero_le _) (Nat.zero_le _) ?_
        have := loop2 hw (tw_hv (n / k)) n 0 hle (Nat.le_refl n) (by rw [Nat.mul_zero])
        rw [Nat.mul_zero] at this
        exact this
      · have c2' : ¬ nI n < nI (k * 2 ^ i) := c2
        rw [nI_ltI (by omega) hbd] at c2'
        have hi : i < tw_hv (n / k) := (pt_iff (by omega)).mpr (by omega)
        iterate 6 refine ax_one M hnm htab hrm rfl rfl (Nat.zero_le _) (Nat.zero_le _) ?_
        have := ih (i + 1) hi (by omega)
        have q3 : nI (k * 2 ^ i) * Int32.ofInt 2 = nI (k * 2 ^ (i + 1)) := by
          rw [show Int32.ofInt 2 = nI 2 from rfl, pk_mul, Nat.pow_succ, Nat.mul_assoc]
        rw [← (show nI i + Int32.ofInt 1 = nI (i + 1) from nI_1 i), ← q3] at this
        exact this
  iterate 3 refine ax_one M hnm htab hrm rfl rfl (Nat.zero_le _) (Nat.zero_le _) ?_
  refine ax_inv_ok mu_ok M (ax_ok_at htab (pc := 25) rfl) (q := (ut_X11_in, [.int w, .int (Int32.ofInt 0), .int (Int32.ofInt 3)], [])) rfl (o := (some (.int (if (Int32.ofInt 0) ≤ w ∧ w ≤ (Int32.ofInt 3) then 1 else 0)), h, N)) (fun _ => tw_in (d := d) _ _ _) (Nat.le_refl _) (Nat.le_refl _) (Nat.le_refl _) (Nat.le_refl _) ?_ (fun q => by cases q)
  refine ax_if2 M (tgt := 34) dd_X11_parts_28 (by decide) (fun c3 => ?_) (fun c3 => out ?_ _)
  · have c3' : Int32.ofInt 0 ≤ w ∧ w ≤ Int32.ofInt 3 := Classical.byContradiction (fun z => c3 (tw_ite0.mpr z))
    have z0 : (0 : Int) ≤ w.toInt := by have := c3'.1; rw [Int32.le_iff_toInt_le] at this; exact this
    have z1 : w.toInt ≤ 3 := by have := c3'.2; rw [Int32.le_iff_toInt_le] at this; exact this
    have hw : w = 0 ∨ w = 1 ∨ w = 2 ∨ w = 3 := by
      rcases (show w.toInt = 0 ∨ w.toInt = 1 ∨ w.toInt = 2 ∨ w.toInt = 3 by omega) with q | q | q | q
      · exact Or.inl (Int32.toInt_inj.mp q)
      · exact Or.inr (Or.inl (Int32.toInt_inj.mp q))
      · exact Or.inr (Or.inr (Or.inl (Int32.toInt_inj.mp q)))
      · exact Or.inr (Or.inr (Or.inr (Int32.toInt_inj.mp q)))
    iterate 4 refine ax_one M hnm htab hrm rfl rfl (Nat.zero_le _) (Nat.zero_le _) ?_
    have := loop1 hw (tw_hv (n / k) + 1) 0 (Nat.zero_le _) (by omega)
    rw [Nat.pow_zero, Nat.mul_one] at this
    exact this
  · have c3' : ¬ (Int32.ofInt 0 ≤ w ∧ w ≤ Int32.ofInt 3) := tw_ite0.mp (Classical.byContradiction c3)
    rw [hT0, if_neg (fun q => c3' (by rw [q]; decide)), if_neg (fun q => c3' (by rw [q]; decide)), if_neg (fun q => c3' (by rw [q]; decide)), if_neg (fun q => c3' (by rw [q]; decide))]
end PTR
