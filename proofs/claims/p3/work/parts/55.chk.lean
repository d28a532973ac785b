/-! ===== calls by contracts or by their bodies; a contract is checked ===== -/
/-- of each method: are sums remembered, may it be run where it is called, where is what parted -/
abbrev ab_MT : Type := List (Bool × Bool × List (Nat × (Nat ⊕ (Nat × Nat))))
def ab_tryc (CS : List ab_Q) (i : Nat) (md : List (Nat × Int)) (k j : Nat) (mj : ax_MI) (S : ab_S) (vs rest : List ab_V) : List Nat → Option (List ab_S)
  | [] => none
  | c :: cs => match CS[c]? with
    | some Q => bif Nat.blt c i && (Nat.beq Q.1 j && Nat.ble Q.2.1 k) then (match ab_cq md Q mj S vs rest with
      | some L => some L
      | none => ab_tryc CS i md k j mj S vs rest cs) else ab_tryc CS i md k j mj S vs rest cs
    | none => ab_tryc CS i md k j mj S vs rest cs
/-- the caller's state behind a method that was run in place -/
def ab_bk (S : ab_S) (rest : List ab_V) (mc ms : Nat) (r : ab_OC) : Option (List ab_S) := match r with
  | .inl _ => none
  | .inr R => some [(S.1, R.2.1 ++ rest, R.2.2.1, R.2.2.2.1, R.2.2.2.2.1, R.2.2.2.2.2.1, S.2.2.2.2.2.2.1 + mc, S.2.2.2.2.2.2.2 + ms)]
def ab_inl (prog : List ax_MI) (cl : ab_CL) (md : List (Nat × Int)) (sm : Bool) (sp : List (Nat × (Nat ⊕ (Nat × Nat)))) (k : Nat) (mj : ax_MI) (S : ab_S) (vs rest : List ab_V) : Option (List ab_S) := match k with
  | 0 => none
  | k + 1 => bif Nat.ble (ab_sum S.2.2.1 vs) mj.2.2.2.1 then (match ab_X prog cl md sm sp mj (fun _ => false) k 200 true 0 (ab_en S vs) with
    | some L => ab_bind (ab_bk S rest mj.2.2.2.2.2.2.1 mj.2.2.2.2.2.2.2.1) L
    | none => none) else none
def ab_call (prog : List ax_MI) (mt : ab_MT) (cd : List (List Nat)) (CS : List ab_Q) (i : Nat) (md : List (Nat × Int)) : Nat → ab_CL
  | 0 => fun k j mj S vs rest => ab_tryc CS i md k j mj S vs rest (cd.getD j [])
  | f + 1 => fun k j mj S vs rest => match mt[j]? with
    | some (sm, true, sp) => ab_inl prog (ab_call prog mt cd CS i md f) md sm sp k mj S vs rest
    | _ => ab_tryc CS i md k j mj S vs rest (cd.getD j [])
section CHK
variable {l : Launch} {G : ax_T} {prog : List ax_MI} {mt : ab_MT} {cd : List (List Nat)} {CS : List ab_Q} {i : Nat} {md : List (Nat × Int)}
theorem ab_tryc_ok (hlow : ∀ c Q, c < i → CS[c]? = some Q → ab_QOk l G prog Q) {k j : Nat} {mj : ax_MI} (hj : prog[j]? = some mj) {S : ab_S} {vs rest : List ab_V} {L : List ab_S} : ∀ (cs : List Nat), ab_tryc CS i md k j mj S vs rest cs = some L → ∀ (d : Nat), k ≤ d → ∀ (W : List Value) (h0 : ax_H) (n0 : Nat) (V : List Value) (lv : List (Nat × Value)) (st as rst : List Value) (h : ax_H) (n cs ss : Nat),
    ab_g (W, h0, n0, md) S V lv st h n cs ss → ab_stR V vs as → ab_stR V rest rst → ∃ o, ab_M l G d mj as h n o ∧ ∃ R ∈ L, ∃ V', ab_g (W, h0, n0, md) R V' lv (o.1.toList ++ rst) o.2.1 o.2.2 (cs + mj.2.2.2.2.2.2.1) (ss + mj.2.2.2.2.2.2.2.1)
  | [], hs => by cases hs
  | c :: cs, hs => by
    unfold ab_tryc at hs
    split at hs
    · rename_i Q hQ
      cases e : (Nat.blt c i && (Nat.beq Q.1 j && Nat.ble Q.2.1 k)) with
      | false =>
        rw [e] at hs
        exact ab_tryc_ok hlow hj cs hs
      | true =>
        rw [e] at hs
        simp only [cond_true] at hs
        simp only [Bool.and_eq_true, Nat.blt_eq, Nat.beq_eq, Nat.ble_eq] at e
        split at hs
        · rename_i L' hL'
          cases hs
          intro d hd W h0 n0 V lv st as rst h n cs' ss hg hv hr
          exact ab_cq_ok (hlow c Q e.1 hQ) (by rw [e.2.1]; exact hj) (Nat.le_trans e.2.2 hd) hg hv hr hL'
        · exact ab_tryc_ok hlow hj cs hs
    · exact ab_tryc_ok hlow hj cs hs
theorem ab_inl_ok (hprog : ax_Prog prog) {cl : ab_CL} (hcl : ab_clOk l G prog md cl) {sm : Bool} {sp : List (Nat × (Nat ⊕ (Nat × Nat)))} {k : Nat} {mj : ax_MI} (hj : mj ∈ prog) {S : ab_S} {vs rest : List ab_V} {L : List ab_S} (hs : ab_inl prog cl md sm sp k mj S vs rest = some L) (d : Nat) (hd : k ≤ d) (W : List Value) (h0 : ax_H) (n0 : Nat) (V : List Value) (lv : List (Nat × Value)) (st as rst : List Value) (h : ax_H) (n cs ss : Nat)
    (hg : ab_g (W, h0, n0, md) S V lv st h n cs ss) (hv : ab_stR V vs as) (hr : ab_stR V rest rst) : ∃ o, ab_M l G d mj as h n o ∧ ∃ R ∈ L, ∃ V', ab_g (W, h0, n0, md) R V' lv (o.1.toList ++ rst) o.2.1 o.2.2 (cs + mj.2.2.2.2.2.2.1) (ss + mj.2.2.2.2.2.2.2.1) := by
  cases k with
  | zero => cases hs
  | succ k =>
    obtain ⟨d, rfl⟩ : ∃ d', d = d' + 1 := ⟨d - 1, by omega⟩
    unfold ab_inl at hs
    obtain ⟨h1, h2⟩ := ab_bif hs
    split at h2
    · rename_i M hM
      have hc := ab_en_ok hg hv md
      have hlen : (lg_sl as).length ≤ mj.2.2.2.1 := by
        rw [ab_sl_sum, ab_sum_ok hg.2.2.1 hv]
        simpa [Nat.ble_eq] using h1
      rcases ab_X_ok hprog hj hcl (show k ≤ d by omega) _ _ _ _ _ hM _ _ _ _ _ _ _ hc (Nat.zero_le _) (Nat.zero_le _) with ⟨pc, R, hR, -⟩ | ⟨R, hR, o, V', hgR, ht, hW⟩
      · obtain ⟨x, hx1, -⟩ := ab_bind_in h2 hR
        cases hx1
      · obtain ⟨x, hx1, hx2⟩ := ab_bind_in h2 hR
        cases hx1
        refine ⟨o, ab_Wd_call hprog hj hlen ht hW, _, hx2 _ (List.mem_singleton.mpr rfl), V', ?_⟩
        obtain ⟨g1, g2, g3, g4, g5, g6, g7, g8, g9⟩ := hg
        obtain ⟨k1, k2, k3, k4, k5, k6, k7, k8, k9⟩ := hgR
        have hx : ab_ext V V' := k9
        refine ⟨ab_lvR_ext hx g1, ab_stR_two k2 (ab_stR_ext hx hr), k3, k4, k5, k6, ⟨by rw [g7.1], by rw [g7.2]⟩, ⟨k8.1, fun q hq a ha => ?_, Nat.le_trans g8.2.2 k8.2.2⟩, fun u v hu => hx u v (g9 u v hu)⟩
        rw [k8.2.1 q (Nat.lt_of_lt_of_le hq g8.2.2) a ha]
        exact g8.2.1 q hq a ha
    · cases h2
theorem ab_call_ok (hprog : ax_Prog prog) (hlow : ∀ c Q, c < i → CS[c]? = some Q → ab_QOk l G prog Q) : ∀ (f : Nat), ab_clOk l G prog md (ab_call prog mt cd CS i md f)
  | 0 => fun k j mi S vs rest L hj hs d hd W h0 n0 V lv st as rst h n cs ss hg hv hr => ab_tryc_ok hlow hj _ hs d hd W h0 n0 V lv st as rst h n cs ss hg hv hr
  | f + 1 => fun k j mi S vs rest L hj hs d hd W h0 n0 V lv st as rst h n cs ss hg hv hr => by
    have ih := ab_call_ok hprog hlow f
    simp only [ab_call] at hs
    split at hs
    · exact ab_inl_ok hprog ih (List.mem_of_getElem? hj) hs d hd W h0 n0 V lv st as rst h n cs ss hg hv hr
    · exact ab_tryc_ok hlow hj _ hs d hd W h0 n0 V lv st as rst h n cs ss hg hv hr
end CHK
/-! measures: lists of differences -/
def ab_mv (V : List Value) (q : ab_V × ab_V) : Nat := match ab_cv V q.1, ab_cv V q.2 with
  | some (.int x), some (.int y) => (x.toInt - y.toInt).toNat
  | _, _ => 0
def ab_enc (V : List Value) : Nat → List (ab_V × ab_V) → Nat
  | 0, _ => 0
  | _ + 1, [] => 0
  | k + 1, q :: L => ab_mv V q * 8589934592 ^ k + ab_enc V k L
theorem ab_mv_lt (V : List Value) (q : ab_V × ab_V) : ab_mv V q < 8589934592 := by
  unfold ab_mv
  split
  · rename_i x y _ _
    have h1 := x.le_toInt
    have h2 := x.toInt_lt
    have h3 := y.le_toInt
    have h4 := y.toInt_lt
    omega
  · omega
theorem ab_enc_lt (V : List Value) : ∀ (k : Nat) (L : List (ab_V × ab_V)), ab_enc V k L < 8589934592 ^ k
  | 0, _ => by simp [ab_enc]
  | k + 1, [] => Nat.pow_pos (by decide)
  | k + 1, q :: L => by
    have h1 := ab_enc_lt V k L
    have h2 := ab_mv_lt V q
    have h3 : (ab_mv V q + 1) * 8589934592 ^ k ≤ 8589934592 * 8589934592 ^ k := Nat.mul_le_mul_right _ h2
    show ab_mv V q * 8589934592 ^ k + ab_enc V k L < 8589934592 ^ (k + 1)
    rw [Nat.pow_succ, Nat.mul_comm (8589934592 ^ k)]
    rw [Nat.add_mul, Nat.one_mul] at h3
    omega
/-- the second list, under a substitution, is less than the first -/
def ab_lex (Γ : List ab_Y) (C : List (Nat × Nat × Int)) (σ : List ab_V) : List (ab_V × ab_V) → List (ab_V × ab_V) → Bool
  | p :: s, q :: t => (match ab_sb σ q.1, ab_sb σ q.2 with
    | some a, some b => (match ab_iv Γ a, ab_iv Γ b, ab_iv Γ p.1, ab_iv Γ p.2, ab_ub Γ C 4 a p.1, ab_ub Γ C 4 p.2 b with
      | some _, some _, some _, some _, some x, some y => bif decide (x + y ≤ -1) && ab_leq Γ C 4 p.2 p.1 (-1) then true else bif decide (x + y ≤ 0) then ab_lex Γ C σ s t else false
      | _, _, _, _, _, _ => false)
    | _, _ => false)
  | _, _ => false
theorem ab_iv_cv {n : Nat} {V : List Value} {Γ : List ab_Y} (hΓ : ab_ty n V Γ) {a : ab_V} {p : Int × Int} (h : ab_iv Γ a = some p) : ∃ x : Int32, ab_cv V a = some (.int x) := by
  have hb : ∃ w, ab_cv V a = some w := by
    rcases a with c | (u | (k | j))
    · simp only [ab_iv, ab_cv] at h ⊢
      cases e : ab_rng c with
      | false => rw [e] at h; cases h
      | true => exact ⟨_, rfl⟩
    · simp only [ab_iv] at h
      split at h
      · rename_i hu
        obtain ⟨w, h1, -⟩ := hΓ.2 u _ hu
        exact ⟨w, h1⟩
      · cases h
    · cases h
    · cases h
  obtain ⟨w, hw⟩ := hb
  obtain ⟨x, rfl, -⟩ := ab_iv_ok hΓ h hw
  exact ⟨x, hw⟩
theorem ab_lex_ok {n : Nat} {V V0 : List Value} {Γ : List ab_Y} {C : List (Nat × Nat × Int)} (hΓ : ab_ty n V Γ) (hC : ab_co V C) {σ : List ab_V} (hσ : ab_all V σ) (hm : ∀ (a : ab_V) (w : Value), ab_cv V a = some w → ab_cv V0 a = some w ∨ ab_cv V0 a = none) : ∀ (k : Nat) (s t : List (ab_V × ab_V)), s.length ≤ k → (∀ p ∈ s, (∃ w, ab_cv V0 p.1 = some w) ∧ ∃ w, ab_cv V0 p.2 = some w) → ab_lex Γ C σ s t = true → ab_enc (ab_vl V σ) k t < ab_enc V0 k s
  | 0, [], _, _, _, hl => by unfold ab_lex at hl; cases hl
  | 0, _ :: _, _, hk, _, _ => by simp at hk
  | k + 1, [], _, _, _, hl => by unfold ab_lex at hl; cases hl
  | k + 1, p :: s, [], _, _, hl => by unfold ab_lex at hl; cases hl
  | k + 1, p :: s, q :: t, hk, hV, hl => by
    unfold ab_lex at hl
    split at hl
    · rename_i a b ha hb
      split at hl
      · rename_i e1 e2 e3 e4 x y i1 i2 i3 i4 hx hy
        obtain ⟨xa, ca⟩ := ab_iv_cv hΓ i1
        obtain ⟨xb, cb⟩ := ab_iv_cv hΓ i2
        obtain ⟨xp, cp⟩ := ab_iv_cv hΓ i3
        obtain ⟨xq, cq⟩ := ab_iv_cv hΓ i4
        have u1 := ab_ub_ok hΓ hC 4 _ _ _ hx _ _ ca cp
        have u2 := ab_ub_ok hΓ hC 4 _ _ _ hy _ _ cq cb
        obtain ⟨⟨w1, hw1⟩, ⟨w2, hw2⟩⟩ := hV p List.mem_cons_self
        have cp0 : ab_cv V0 p.1 = some (.int xp) := by
          rcases hm _ _ cp with h | h
          · exact h
          · rw [h] at hw1; cases hw1
        have cq0 : ab_cv V0 p.2 = some (.int xq) := by
          rcases hm _ _ cq with h | h
          · exact h
          · rw [h] at hw2; cases hw2
        have m1 : ab_mv (ab_vl V σ) q = (xa.toInt - xb.toInt).toNat := by
          unfold ab_mv
          rw [ab_sb_cv hσ ha, ab_sb_cv hσ hb, ca, cb]
        have m2 : ab_mv V0 p = (xp.toInt - xq.toInt).toNat := by
          unfold ab_mv
          rw [cp0, cq0]
        show ab_mv (ab_vl V σ) q * 8589934592 ^ k + ab_enc (ab_vl V σ) k t < ab_mv V0 p * 8589934592 ^ k + ab_enc V0 k s
        have hlt := ab_enc_lt (ab_vl V σ) k t
        cases ed : (decide (x + y ≤ -1) && ab_leq Γ C 4 p.2 p.1 (-1)) with
        | true =>
          simp only [Bool.and_eq_true, decide_eq_true_eq] at ed
          have u3 := ab_leq_ok hΓ hC ed.2 cq cp
          have hstep : ab_mv (ab_vl V σ) q + 1 ≤ ab_mv V0 p := by rw [m1, m2]; omega
          have := Nat.mul_le_mul_right (8589934592 ^ k) hstep
          rw [Nat.add_mul, Nat.one_mul] at this
          omega
        | false =>
          rw [ed] at hl
          simp only [cond_false] at hl
          cases ee : decide (x + y ≤ 0) with
          | false => rw [ee] at hl; cases hl
          | true =>
            rw [ee] at hl
            simp only [cond_true] at hl
            have ee' := of_decide_eq_true ee
            have hle : ab_mv (ab_vl V σ) q ≤ ab_mv V0 p := by rw [m1, m2]; omega
            have h2 := Nat.mul_le_mul_right (8589934592 ^ k) hle
            have ih := ab_lex_ok hΓ hC hσ hm k s t (by simpa using hk) (fun r hr => hV r (List.mem_cons_of_mem _ hr)) hl
            omega
      · cases hl
    · cases hl
