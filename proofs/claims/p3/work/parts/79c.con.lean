/-! ===== contracts of what the methods by hand call (printed by wip/hand/gen2.py) ===== -/
def hq_0 : ab_Q := (169, 1, ([(0, av_k 542), (1, av_s 0), (2, av_s 1), (3, av_s 2), (4, av_s 3)], [], [.inl (0, 5, 0), .inl (0, 13, 0), .inl (0, 13, 0), .inl (1, 24, 0)], [], [], [], 0, 0), [], [([], [av_c 0], [.inl (0, 5, 0), .inl (0, 13, 0), .inl (0, 13, 0), .inl (1, 24, 0)], [], [], [], 0, 0), ([], [av_c 1], [.inl (0, 5, 0), .inl (0, 13, 0), .inl (0, 13, 0), .inl (1, 24, 0)], [], [], [], 0, 0)])  -- X11_mayTake 
def hu_0 : List ab_CU := []
def hq_1 : ab_Q := (173, 1, ([(0, av_s 0), (1, av_s 1)], [], [.inl (0, 2147483647, 0), .inl ((-1999999), 2147483647, 0)], [], [], [], 0, 0), [], [([], [av_s 2], [.inl (0, 2147483647, 0), .inl ((-1999999), 2147483647, 0), .inl (0, 2147483647, 0)], [], [], [], 0, 0)])  -- X11_shared 
def hu_1_0 : ab_CU := (22, ([(2, av_s 2), (3, av_s 3)], [], [.inl (0, 2147483647, 0), .inl ((-1999999), 2147483647, 0), .inl (0, 2147483647, 0), .inl (0, 2147483647, 0)], [], [], [], 0, 0), [(av_c 986, av_c 0), (av_s 3, av_c 0), (av_c 986, av_c 0)])
def hu_1 : List ab_CU := [hu_1_0]
def hq_2 : ab_Q := (174, 2, ([(0, av_k 542), (1, av_s 0)], [], [.inl (0, 5, 0)], [], [], [], 0, 0), [(264452523040700131966976, (-2))], [([], [], [.inl (0, 5, 0)], [], [], [], 0, 0)])  -- X11_bound 
def hu_2_0 : ab_CU := (23, ([(0, av_k 542), (1, av_s 0), (2, av_s 1)], [], [.inl (0, 5, 0), .inl (0, 14, 0)], [], [(av_k 567, av_c 0, av_c 0), (av_k 542, av_c 34, av_k 567), (av_k 566, av_c 0, av_c 0), (av_k 542, av_c 33, av_k 566), (av_k 565, av_c 0, av_c 0), (av_k 542, av_c 32, av_k 565)], [], 0, 0), [(av_c 983, av_c 0), (av_c 14, av_s 1), (av_c 983, av_c 0)])
def hu_2_1 : ab_CU := (63, ([(0, av_k 542), (1, av_s 0), (2, av_s 1), (3, av_s 2), (4, av_s 3), (5, av_s 4), (6, av_s 5)], [], [.inl (0, 5, 0), .inl (0, 13, 0), .inl (0, 9999999, 0), .inl ((-1000000000), 0, 0), .inl (0, 2147483647, 0), .inl (0, 13, 0)], [(5, 1, 0)], [(av_k 542, av_c 0, av_k 543), (av_k 542, av_c 5, av_k 546), (av_k 567, av_c 0, av_c 0), (av_k 542, av_c 34, av_k 567), (av_k 566, av_c 0, av_c 0), (av_k 542, av_c 33, av_k 566), (av_k 565, av_c 0, av_c 0), (av_k 542, av_c 32, av_k 565)], [], 0, 0), [(av_c 983, av_c 0), (av_c 14, av_s 1), (av_c 958, av_c 0), (av_c 13, av_s 5), (av_c 958, av_c 0)])
def hu_2_2 : ab_CU := (72, ([(0, av_k 542), (1, av_s 0), (2, av_s 1), (3, av_s 2), (4, av_s 3), (5, av_s 4), (6, av_s 5), (7, av_s 6)], [], [.inl (0, 5, 0), .inl (1, 13, 0), .inl (0, 9999999, 0), .inl ((-1000000000), 0, 0), .inl (0, 2147483647, 0), .inl (0, 12, 0), .inl (1, 3, 0)], [(5, 1, (-1))], [(av_k 542, av_c 0, av_k 543), (av_k 542, av_c 5, av_k 546), (av_k 567, av_c 0, av_c 0), (av_k 542, av_c 34, av_k 567), (av_k 566, av_c 0, av_c 0), (av_k 542, av_c 33, av_k 566), (av_k 565, av_c 0, av_c 0), (av_k 542, av_c 32, av_k 565)], [], 0, 0), [(av_c 983, av_c 0), (av_c 14, av_s 1), (av_c 958, av_c 0), (av_c 13, av_s 5), (av_c 953, av_c 0), (av_c 3, av_s 6), (av_c 953, av_c 0)])
def hu_2 : List ab_CU := [hu_2_0, hu_2_1, hu_2_2]
def hq_3 : ab_Q := (178, 2, ([(0, av_k 542), (1, av_s 0), (2, av_s 1)], [], [.inl (0, 5, 0), .inl (0, 13, 0)], [], [], [], 0, 0), [], [([], [av_c 0], [.inl (0, 5, 0), .inl (0, 13, 0)], [], [], [], 0, 0), ([], [av_c 1], [.inl (0, 5, 0), .inl (0, 13, 0)], [], [], [], 0, 0)])  -- X11_isAllowed 
def hu_3 : List ab_CU := []
def hq_4 : ab_Q := (170, 2, ([(0, av_k 542), (1, av_s 0), (2, av_s 1), (3, av_s 2), (4, av_s 3), (5, av_s 4)], [], [.inl (0, 5, 0), .inl (0, 13, 0), .inl (1, 21, 0), .inl (0, 13, 0), .inl (0, 14, 0)], [], [], [], 0, 0), [], [([], [av_c 0], [.inl (0, 5, 0), .inl (0, 13, 0), .inl (1, 21, 0), .inl (0, 13, 0), .inl (0, 14, 0)], [], [], [], 0, 0), ([], [av_c 1], [.inl (0, 5, 0), .inl (0, 12, 0), .inl (1, 2, 0), .inl (1, 13, 0), .inl (2, 14, 0)], [(1, 3, (-1)), (1, 4, (-2))], [], [], 0, 0)])  -- X11_mayBegin 
def hu_4_0 : ab_CU := (5, ([(0, av_k 542), (1, av_s 0), (2, av_s 1), (3, av_s 2), (4, av_s 3), (5, av_s 4), (6, av_s 5)], [], [.inl (0, 5, 0), .inl (0, 13, 0), .inl (1, 21, 0), .inl (0, 13, 0), .inl (0, 14, 0), .inl (1, 14, 0)], [(1, 5, (-1))], [], [], 0, 0), [(av_c 996, av_c 0), (av_c 14, av_s 5), (av_c 996, av_c 0)])
def hu_4 : List ab_CU := [hu_4_0]
def hq_5 : ab_Q := (175, 1, ([(0, av_k 542), (1, av_s 0), (2, av_s 1), (3, av_s 2)], [], [.inl (0, 13, 0), .inl ((-2147483648), 2147483647, 0), .inl (0, 24, 0)], [], [], [], 0, 0), [], [([], [av_c 0], [.inl (0, 13, 0), .inl ((-2147483648), 2147483647, 0), .inl (0, 24, 0)], [], [], [], 0, 0), ([], [av_c 1], [.inl (0, 13, 0), .inl ((-2147483648), 2147483647, 0), .inl (0, 24, 0)], [], [], [], 0, 0)])  -- X11_mayCome 
def hu_5 : List ab_CU := []
def hq_6 : ab_Q := (177, 1, ([(0, av_k 542), (1, av_s 0)], [], [.inl (0, 13, 0)], [], [], [], 0, 0), [], [([], [av_s 1], [.inl (0, 13, 0), .inl ((-2999999), 9999999, 0)], [], [], [], 0, 0)])  -- X11_worthBy 
def hu_6 : List ab_CU := []
def hz_all : List ab_Q := [hq_0, hq_1, hq_2, hq_3, hq_4, hq_5, hq_6]
def hz_cd : List (List Nat) := [[], [], [], [], [], [], [], [], [], [], [], [], [], [], [], [], [], [], [], [], [], [], [], [], [], [], [], [], [], [], [], [], [], [], [], [], [], [], [], [], [], [], [], [], [], [], [], [], [], [], [], [], [], [], [], [], [], [], [], [], [], [], [], [], [], [], [], [], [], [], [], [], [], [], [], [], [], [], [], [], [], [], [], [], [], [], [], [], [], [], [], [], [], [], [], [], [], [], [], [], [], [], [], [], [], [], [], [], [], [], [], [], [], [], [], [], [], [], [], [], [], [], [], [], [], [], [], [], [], [], [], [], [], [], [], [], [], [], [], [], [], [], [], [], [], [], [], [], [], [], [], [], [], [], [], [], [], [], [], [], [], [], [], [], [], [], [], [], [], [0], [4], [], [], [1], [2], [5], [], [6], [3], [], [], [], [], [], [], [], [], [], [], [], [], [], [], [], [], [], [], [], [], [], [], [], [], [], [], [], [], [], [], [], [], [], [], [], [], [], [], [], [], [], [], [], [], [], [], [], [], [], [], [], [], [], [], [], [], []]
def hz_mt : ab_MT := [(false, false, []), (false, false, []), (false, false, []), (false, false, []), (false, false, []), (false, false, []), (false, false, []), (false, true, []), (false, true, []), (false, true, []), (false, false, []), (false, false, []), (false, false, []), (false, true, []), (false, false, []), (false, false, []), (false, false, []), (false, false, []), (false, false, []), (false, false, []), (false, false, []), (false, false, []), (false, false, [(0, .inl 3)]), (false, false, []), (false, false, []), (false, false, []), (false, false, []), (false, false, []), (false, false, []), (false, false, []), (false, false, []), (false, false, []), (false, false, []), (false, false, []), (false, false, []), (false, false, []), (false, false, []), (false, false, []), (false, false, []), (false, false, []), (false, false, []), (false, false, []), (false, false, []), (false, false, []), (false, false, []), (false, false, []), (false, false, []), (false, false, []), (false, false, []), (false, false, []), (false, false, []), (false, false, []), (false, false, []), (false, false, []), (false, false, []), (false, false, []), (false, false, []), (false, false, []), (false, false, []), (false, false, []), (false, false, []), (false, false, []), (false, false, []), (false, false, []), (false, false, []), (false, false, []), (false, false, []), (false, false, []), (false, false, []), (false, false, []), (false, false, []), (false, false, []), (false, false, []), (false, false, []), (false, false, []), (false, false, []), (false, false, []), (false, false, []), (false, false, []), (false, false, []), (false, false, []), (false, false, []), (false, false, []), (false, false, []), (false, true, [(0, .inl 1)]), (false, false, [(0, .inl 1)]), (false, false, []), (false, false, []), (false, false, []), (false, false, []), (false, false, []), (false, false, []), (false, false, [(0, .inl 1)]), (false, false, [(0, .inl 1)]), (false, false, []), (false, false, []), (false, false, []), (false, false, []), (false, false, []), (false, false, []), (false, false, []), (false, false, []), (false, false, []), (false, false, []), (false, false, []), (false, false, []), (false, false, []), (false, false, []), (false, false, []), (false, false, []), (false, false, []), (false, false, []), (false, false, []), (false, false, []), (false, false, []), (false, false, []), (false, false, []), (false, false, []), (false, false, []), (false, false, []), (false, false, []), (false, false, []), (false, false, []), (false, false, []), (false, false, []), (false, false, []), (false, false, []), (false, false, []), (false, false, []), (false, false, []), (false, false, []), (false, false, []), (false, false, []), (false, false, []), (false, false, []), (false, false, []), (false, false, []), (false, false, []), (false, false, []), (false, false, []), (false, true, []), (false, true, []), (false, true, []), (false, true, []), (false, false, []), (false, false, []), (false, false, []), (false, false, []), (false, false, []), (false, false, []), (false, false, []), (false, false, []), (false, true, []), (false, false, []), (false, false, []), (false, false, []), (false, false, [(0, .inr (542, 4))]), (false, false, []), (false, false, []), (false, false, []), (false, true, []), (false, false, []), (false, true, []), (false, false, []), (false, false, []), (false, false, []), (false, false, []), (false, false, []), (true, false, []), (false, false, []), (false, false, []), (false, false, []), (false, false, []), (false, false, []), (false, false, []), (false, false, []), (false, false, []), (false, false, []), (false, false, []), (false, false, []), (false, false, []), (false, false, []), (false, false, []), (false, false, []), (false, false, []), (false, false, []), (false, false, []), (false, false, []), (false, false, []), (false, false, []), (false, false, []), (false, true, []), (false, true, [(12, .inl 1)]), (false, true, [(13, .inl 1)]), (false, false, []), (false, true, []), (false, false, []), (false, false, []), (false, false, []), (false, false, []), (false, false, []), (false, false, []), (false, false, []), (false, false, []), (false, false, []), (false, false, []), (false, false, []), (false, false, []), (false, false, []), (false, false, []), (false, false, []), (false, true, []), (false, false, []), (true, false, []), (false, false, []), (false, true, []), (false, false, []), (false, false, []), (false, false, []), (false, false, []), (false, false, []), (false, false, []), (false, false, []), (false, false, []), (false, false, []), (false, false, []), (false, false, []), (false, false, []), (false, false, []), (false, false, []), (false, false, []), (false, false, []), (false, false, []), (false, false, []), (false, false, []), (false, false, [])]
/-! ===== they are checked (printed by wip/hand/gen2.py) ===== -/
set_option maxRecDepth 100000 in
theorem hk_0_E : ab_chkE mt_prog hz_mt hz_cd hz_all 0 hq_0 mt_X11_mayTake hu_0 = true := by decide +kernel
set_option maxRecDepth 100000 in
theorem hk_1_E : ab_chkE mt_prog hz_mt hz_cd hz_all 1 hq_1 mt_X11_shared hu_1 = true := by decide +kernel
set_option maxRecDepth 100000 in
theorem hk_1_0 : ab_chkC mt_prog hz_mt hz_cd hz_all 1 hq_1 mt_X11_shared hu_1 hu_1_0 = true := by decide +kernel
/-! ===== they are checked (printed by wip/hand/gen2.py) ===== -/
set_option maxRecDepth 100000 in
theorem hk_2_E : ab_chkE mt_prog hz_mt hz_cd hz_all 2 hq_2 mt_X11_bound hu_2 = true := by decide +kernel
set_option maxRecDepth 100000 in
theorem hk_2_0 : ab_chkC mt_prog hz_mt hz_cd hz_all 2 hq_2 mt_X11_bound hu_2 hu_2_0 = true := by decide +kernel
set_option maxRecDepth 100000 in
theorem hk_2_1 : ab_chkC mt_prog hz_mt hz_cd hz_all 2 hq_2 mt_X11_bound hu_2 hu_2_1 = true := by decide +kernel
set_option maxRecDepth 100000 in
theorem hk_2_2 : ab_chkC mt_prog hz_mt hz_cd hz_all 2 hq_2 mt_X11_bound hu_2 hu_2_2 = true := by decide +kernel
/-! ===== they are checked (printed by wip/hand/gen2.py) ===== -/
set_option maxRecDepth 100000 in
theorem hk_3_E : ab_chkE mt_prog hz_mt hz_cd hz_all 3 hq_3 mt_X11_isAllowed hu_3 = true := by decide +kernel
set_option maxRecDepth 100000 in
theorem hk_4_E : ab_chkE mt_prog hz_mt hz_cd hz_all 4 hq_4 mt_X11_mayBegin hu_4 = true := by decide +kernel
set_option maxRecDepth 100000 in
theorem hk_4_0 : ab_chkC mt_prog hz_mt hz_cd hz_all 4 hq_4 mt_X11_mayBegin hu_4 hu_4_0 = true := by decide +kernel
/-! ===== they are checked (printed by wip/hand/gen2.py) ===== -/
set_option maxRecDepth 100000 in
theorem hk_5_E : ab_chkE mt_prog hz_mt hz_cd hz_all 5 hq_5 mt_X11_mayCome hu_5 = true := by decide +kernel
set_option maxRecDepth 100000 in
theorem hk_6_E : ab_chkE mt_prog hz_mt hz_cd hz_all 6 hq_6 mt_X11_worthBy hu_6 = true := by decide +kernel
/-! ===== they hold ===== -/
section CY
variable {l : Launch} {G : ax_T}
theorem hy_0 : ∀ c Q, c < 0 → hz_all[c]? = some Q → ab_QOk l G mt_prog Q := fun c Q hc => absurd hc (Nat.not_lt_zero c)
theorem hy_1 : ∀ c Q, c < 1 → hz_all[c]? = some Q → ab_QOk l G mt_prog Q := ab_up (q := hq_0) hy_0 rfl (ab_con_ok mt_ok hy_0 mi_X11_mayTake rfl hk_0_E (fun c hc => nomatch hc))
theorem hy_2 : ∀ c Q, c < 2 → hz_all[c]? = some Q → ab_QOk l G mt_prog Q := ab_up (q := hq_1) hy_1 rfl (ab_con_ok mt_ok hy_1 mi_X11_shared rfl hk_1_E (List.forall_mem_cons.mpr ⟨hk_1_0, (fun c hc => nomatch hc)⟩))
theorem hy_3 : ∀ c Q, c < 3 → hz_all[c]? = some Q → ab_QOk l G mt_prog Q := ab_up (q := hq_2) hy_2 rfl (ab_con_ok mt_ok hy_2 mi_X11_bound rfl hk_2_E (List.forall_mem_cons.mpr ⟨hk_2_0, (List.forall_mem_cons.mpr ⟨hk_2_1, (List.forall_mem_cons.mpr ⟨hk_2_2, (fun c hc => nomatch hc)⟩)⟩)⟩))
theorem hy_4 : ∀ c Q, c < 4 → hz_all[c]? = some Q → ab_QOk l G mt_prog Q := ab_up (q := hq_3) hy_3 rfl (ab_con_ok mt_ok hy_3 mi_X11_isAllowed rfl hk_3_E (fun c hc => nomatch hc))
theorem hy_5 : ∀ c Q, c < 5 → hz_all[c]? = some Q → ab_QOk l G mt_prog Q := ab_up (q := hq_4) hy_4 rfl (ab_con_ok mt_ok hy_4 mi_X11_mayBegin rfl hk_4_E (List.forall_mem_cons.mpr ⟨hk_4_0, (fun c hc => nomatch hc)⟩))
theorem hy_6 : ∀ c Q, c < 6 → hz_all[c]? = some Q → ab_QOk l G mt_prog Q := ab_up (q := hq_5) hy_5 rfl (ab_con_ok mt_ok hy_5 mi_X11_mayCome rfl hk_5_E (fun c hc => nomatch hc))
theorem hy_7 : ∀ c Q, c < 7 → hz_all[c]? = some Q → ab_QOk l G mt_prog Q := ab_up (q := hq_6) hy_6 rfl (ab_con_ok mt_ok hy_6 mi_X11_worthBy rfl hk_6_E (fun c hc => nomatch hc))
end CY
/-- a contract, for a method that is called from one by hand -/
theorem mc_con {l : Launch} {G : ax_T} {Q : ab_Q} {mi : ax_MI} {d : Nat} {h : ax_H} {n : Nat} (hQ : ab_QOk l G mt_prog Q) (hmi : mt_prog[Q.1]? = some mi) (hd : Q.2.1 ≤ d) (V as : List Value) (hl : Nat.ble (lg_sl as).length mi.2.2.2.1 = true) {lv : List (Nat × ab_V)} {Γ : List ab_Y} (hp : Q.2.2.1 = (lv, [], Γ, [], [], [], 0, 0)) (hlv : ab_lvR V lv (lv_args 0 as)) (hΓ : ab_ty n V Γ) (H : ab_HT h n) :
    mc_M l G d mi as h n (fun r h' n' => ab_HT h' n' ∧ n ≤ n' ∧ ab_fr Q.2.2.2.1 n h h' ∧ ∃ P ∈ Q.2.2.2.2, ∃ V', ab_ty n' V' P.2.2.1 ∧ ab_stR V' P.2.1 r.toList) := by
  have hg : ab_g (V, h, n, Q.2.2.2.1) Q.2.2.1 V (lv_args 0 as) [] h n 0 0 := by
    rw [hp]
    exact ⟨hlv, trivial, hΓ, fun q hq => (nomatch hq), fun q hq => (nomatch hq), fun q hq => (nomatch hq), ⟨rfl, rfl⟩, ⟨H, fun k _ i _ => rfl, Nat.le_refl _⟩, fun u v hu => hu⟩
  obtain ⟨o, hM, P, hP, V', c', s', g1, g2, g3, g4, g5, g6, g7, g8, g9⟩ := hQ mi hmi d hd V as h n (by simpa [Nat.ble_eq] using hl) hg
  exact ⟨o, hM, g8.1, g8.2.2, g8.2.1, P, hP, V', g3, g2⟩
/-- a predicate by contract: 0 or 1 -/
theorem mc_b01 {V : List Value} {r : Option Value} {P : ab_S} {Ps : List ab_S} (hP : P ∈ Ps) (hs : Ps.all (fun P => match P.2.1 with | [.inl c] => decide (c = 0) || decide (c = 1) | _ => false) = true) (hr : ab_stR V P.2.1 r.toList) : ∃ y : Int32, r = some (.int y) ∧ (y.toInt = 0 ∨ y.toInt = 1) := by
  have h1 := List.all_eq_true.mp hs P hP
  split at h1
  · rename_i c hc
    rw [hc] at hr
    cases r with
    | none => exact hr.elim
    | some v =>
      have hv := hr.1
      simp only [Bool.or_eq_true, decide_eq_true_eq] at h1
      rcases h1 with rfl | rfl
      · cases hv
        exact ⟨_, rfl, Or.inl rfl⟩
      · cases hv
        exact ⟨_, rfl, Or.inr rfl⟩
  · cases h1
