/-! ===== the cells behind the constructors are as their kinds say ===== -/
def hs_ok (n : Nat) (v : Value) (τ : ab_Y) : Bool := match τ, v with
  | .inl (lo, hi, f), .int x => decide (lo ≤ x.toInt) && (decide (x.toInt ≤ hi) && (Nat.beq f 0 || (Nat.beq f 3 && ab_let.any fun z => decide (z = x.toInt))))
  | .inr none, .long _ => true
  | .inr (some M), .ref k => Nat.blt k n && M.testBit (ab_k k)
  | _, _ => false
theorem hs_ok_ok {n : Nat} {v : Value} {τ : ab_Y} (h : hs_ok n v τ = true) : ab_ok n v τ := by
  unfold hs_ok at h
  split at h
  · rename_i lo hi f x
    simp only [Bool.and_eq_true, Bool.or_eq_true, decide_eq_true_eq, Nat.beq_eq] at h
    refine ⟨x, rfl, h.1, h.2.1, ?_⟩
    rcases h.2.2 with rfl | ⟨rfl, h3⟩
    · exact trivial
    · obtain ⟨z, hz, hzz⟩ := List.any_eq_true.mp h3
      have : z = x.toInt := of_decide_eq_true hzz
      subst this
      exact hz
  · exact ⟨_, rfl⟩
  · rename_i M k
    simp only [Bool.and_eq_true, Nat.blt_eq] at h
    exact ⟨k, rfl, h.1, h.2⟩
  · cases h
def hs_fs (n : Nat) : List Value → List ab_Y → Bool
  | [], [] => true
  | v :: fs, τ :: τs => hs_ok n v τ && hs_fs n fs τs
  | _, _ => false
theorem hs_fs_ok {n : Nat} : ∀ {fs : List Value} {τs : List ab_Y}, hs_fs n fs τs = true → fs.length = τs.length ∧ ∀ (j : Nat) (v : Value), fs[j]? = some v → ∃ τ, τs[j]? = some τ ∧ ab_ok n v τ
  | [], [], _ => ⟨rfl, fun j v hv => by simp at hv⟩
  | v :: fs, τ :: τs, h => by
    simp only [hs_fs, Bool.and_eq_true] at h
    obtain ⟨i1, i2⟩ := hs_fs_ok h.2
    refine ⟨by simp [i1], fun j w hw => ?_⟩
    cases j with
    | zero =>
      simp only [List.getElem?_cons_zero, Option.some.injEq] at hw
      subst hw
      exact ⟨τ, rfl, hs_ok_ok h.1⟩
    | succ j =>
      simp only [List.getElem?_cons_succ] at hw ⊢
      exact i2 j w hw
  | [], _ :: _, h => by cases h
  | _ :: _, [], h => by cases h
def hs_cf (n : Nat) (S : ab_P) (d : ax_D) : Bool := match S, d with
  | .inl (t, N1, N2, τ, σ), .inl (t', N, .inl f) => Nat.beq t' t && (Nat.blt t 2 && (Nat.ble N1 N && (Nat.ble N N2 && (Nat.blt N2 2147483648 && (match f, σ with
    | [], [] => hs_ok n (.int 0) τ
    | _, _ => (List.range N).all fun i => hs_ok n (.int (ax_fi f i)) τ && hs_ok n (.int (ax_fi f i)) (σ.getD i τ))))))
  | .inl (t, N1, N2, τ, σ), .inl (t', N, .inr f) => Nat.beq t' t && (Nat.ble 2 t && (σ.isEmpty && (Nat.ble N1 N && (Nat.ble N N2 && (Nat.blt N2 2147483648 && ((List.range N).all fun i => match ax_fr f i with
    | some k => hs_ok n (.ref k) τ
    | none => false))))))
  | .inr (ci, τs), .inr (ci', fs) => Nat.beq ci' ci && hs_fs n fs τs
  | _, _ => false
theorem hs_cf_ok {n : Nat} {S : ab_P} {d : ax_D} (h : hs_cf n S d = true) : ab_cf n S d := by
  unfold hs_cf at h
  split at h
  · rename_i t N1 N2 τ σ t' N f
    simp only [Bool.and_eq_true, Nat.beq_eq, Nat.blt_eq, Nat.ble_eq] at h
    obtain ⟨h1, h2, h3, h4, h5, h6⟩ := h
    refine ⟨h1, h2, h3, h4, h5, fun i hi => ?_⟩
    split at h6
    · have h7 := hs_ok_ok h6
      exact ⟨h7, by rw [List.getD_eq_getElem?_getD]; exact h7⟩
    · have h7 := List.all_eq_true.mp h6 i (List.mem_range.mpr hi)
      simp only [Bool.and_eq_true] at h7
      exact ⟨hs_ok_ok h7.1, hs_ok_ok h7.2⟩
  · rename_i t N1 N2 τ σ t' N f
    simp only [Bool.and_eq_true, Nat.beq_eq, Nat.blt_eq, Nat.ble_eq, List.isEmpty_iff] at h
    obtain ⟨h1, h2, h3, h4, h5, h6, h7⟩ := h
    refine ⟨h1, h2, h3, h4, h5, h6, fun i hi => ?_⟩
    have h8 := List.all_eq_true.mp h7 i (List.mem_range.mpr hi)
    split at h8
    · rename_i k hk
      exact ⟨k, hk, hs_ok_ok h8⟩
    · cases h8
  · rename_i ci τs ci' fs
    simp only [Bool.and_eq_true, Nat.beq_eq] at h
    obtain ⟨h1, h2⟩ := h
    obtain ⟨h3, h4⟩ := hs_fs_ok h2
    exact ⟨h1, h3, h4⟩
  · cases h
def hs_all (h : ax_H) (n : Nat) : Bool := (List.range n).all fun k => match ax_raw h k, ab_K[ab_k k]? with
  | some d, some S => hs_cf n S d
  | _, _ => false
theorem hs_all_ok {h : ax_H} {n : Nat} (ha : hs_all h n = true) : ∀ k, k < n → ∃ d S, ax_raw h k = some d ∧ ab_K[ab_k k]? = some S ∧ ab_cf n S d := by
  intro k hk
  have h1 := List.all_eq_true.mp ha k (List.mem_range.mpr hk)
  split at h1
  · rename_i d S hd hS
    exact ⟨d, S, hd, hS, hs_cf_ok h1⟩
  · cases h1
set_option maxRecDepth 100000 in
theorem hs_made : hs_all lw_hm 573 = true := by decide +kernel
def hs_jB (h : ax_H) : Bool := (match ab_rd h 28 4 with
  | some (.ref w) => decide (ab_ri h 28 6 ≤ ab_ri h w (-1)) && decide (ab_ri h 28 7 ≤ ab_ri h w (-1))
  | _ => true) && (Nat.ble (ab_gc h 29 (ab_ri h 28 1).toNat) 3 && (decide (ab_ri h 28 1 ≤ ab_ri h 28 2) && (decide (ab_ri h 28 2 ≤ ab_ri h 28 1 + 1) && Nat.ble (ab_gc h 554 (ab_ri h 542 14).toNat) 3)))
theorem hs_jB_ok {h : ax_H} (hb : hs_jB h = true) : ab_J h := by
  unfold hs_jB at hb
  simp only [Bool.and_eq_true, Nat.ble_eq, decide_eq_true_eq] at hb
  obtain ⟨h1, h2, h3, h4, h5⟩ := hb
  refine ⟨⟨h2, h3, h4⟩, h5, fun w hw => ?_⟩
  rw [hw] at h1
  simp only [Bool.and_eq_true, decide_eq_true_eq] at h1
  exact h1
set_option maxRecDepth 100000 in
theorem hs_j : hs_jB lw_hm = true := by decide +kernel
theorem hs_HT : ab_HT lw_hm 573 := ⟨Nat.le_refl _, hs_all_ok hs_made, hs_jB_ok hs_j, by decide +kernel, by decide +kernel, by decide +kernel⟩
