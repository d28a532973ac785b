/-! ===== reading and writing cells, over abstract states ===== -/
theorem ab_bif {α : Type} {b : Bool} {x : Option α} {y : α} (h : (bif b then x else none) = some y) : b = true ∧ x = some y := by
  cases b with
  | false => cases h
  | true => exact ⟨rfl, h⟩
def ab_jf (a b : Int) (f : Nat) (c d : Int) (g : Nat) : Nat :=
  bif (Nat.beq f 3 || Nat.beq g 3) && (ab_fge a b f 3 && ab_fge c d g 3) then 3
  else bif (Nat.beq f 1 || Nat.beq g 1) && (ab_fge a b f 1 && ab_fge c d g 1) then 1
  else bif (Nat.beq f 2 || Nat.beq g 2) && (ab_fge a b f 2 && ab_fge c d g 2) then 2 else 0
/-- two types joined (checked where it is used) -/
def ab_jy (τ σ : ab_Y) : ab_Y := match τ, σ with
  | .inl (a, b, f), .inl (c, d, g) => .inl (min a c, max b d, ab_jf a b f c d g)
  | .inr (some M), .inr (some N) => .inr (some (M ||| N))
  | τ, _ => τ
def ab_jo (o : Option ab_Y) (σ : ab_Y) : Option ab_Y := match o with
  | some τ => some (ab_jy τ σ)
  | none => some σ
def ab_ftj (M j : Nat) : Option ab_Y := (ab_ks M).foldl (fun (o : Option ab_Y) (κ : Nat) => match ab_K[κ]? with
  | some (.inr (_, τs)) => (match τs[j]? with
    | some σ => ab_jo o σ
    | none => o)
  | _ => o) none
def ab_atj (M : Nat) (c : Option Nat) : Option ab_Y := (ab_ks M).foldl (fun (o : Option ab_Y) (κ : Nat) => match ab_K[κ]? with
  | some (.inl (_, _, _, σ, σs)) => ab_jo o (match c with
    | some i => σs.getD i σ
    | none => σ)
  | _ => o) none
/-- least and greatest length -/
def ab_lens (M : Nat) : Option (Nat × Nat) := match (ab_ks M).foldl (fun o κ => match ab_K[κ]? with
    | some (.inl (_, N1, N2, _)) => (match o with
      | some (a, b) => some (min a N1, max b N2)
      | none => some (N1, N2))
    | _ => o) (none : Option (Nat × Nat)) with
  | some (a, b) => bif (ab_ks M).all (fun κ => match ab_K[κ]? with
      | some (.inl (_, N1, N2, _)) => Nat.ble a N1 && Nat.ble N2 b
      | _ => false) then some (a, b) else none
  | none => none
theorem ab_lens_ok {h : ax_H} {n M k t N : Nat} {f : List (Nat × Int32) ⊕ List (Nat × Option Nat)} (hH : ab_HT h n) (hM : M.testBit (ab_k k) = true) (hk : k < n) (hr : ax_raw h k = some (.inl (t, N, f))) {a b : Nat} (hl : ab_lens M = some (a, b)) : a ≤ N ∧ N ≤ b ∧ N < 2147483648 := by
  obtain ⟨t', N1, N2, σ, σs, h1, h2, h3, h4⟩ := ab_len_ok hH hk hr
  unfold ab_lens at hl
  split at hl
  · rename_i a' b' _
    obtain ⟨hall, hl⟩ := ab_bif hl
    cases hl
    have := List.all_eq_true.mp hall _ (ab_ks_in hM h1)
    rw [h1] at this
    simp only [Bool.and_eq_true, Nat.ble_eq] at this
    omega
  · cases hl
section CEL
variable {E : ab_E} {S : ab_S} {V : List Value} {pc nL : Nat} {lv : List (Nat × Value)} {st : List Value} {h : ax_H} {n cs ss : Nat} {L : List (Nat × ab_S)} {iv : Nat → Int × Int} {pe : ax_PE}
def ab_getf (pe : ax_PE) (S : ab_S) (pc : Nat) : ab_L := match S.2.1 with
  | o :: st => match ab_mo S.2.2.1 o with
    | some M => match ab_ftj M pe.2.2.1 with
      | some τ => bif ab_fck M pe.2.1 pe.2.2.1 τ && ab_rng pe.2.2.1 then some [(pc + 3, ab_load S st o (.inl pe.2.2.1) τ)] else none
      | none => none
    | none => none
  | [] => none
theorem ab_getf_ok (hg : ab_g E S V lv st h n cs ss) (hs : ab_getf pe S pc = some L) : ∃ F, ax_s_getf pe pc lv st h n cs ss = some F ∧ ab_in E L F := by
  obtain ⟨lv0, st0, Γ, rest⟩ := S
  have hg' := hg
  obtain ⟨g1, g2, g3, g4, g5, g6, g7, ⟨g8, g8', g8''⟩, g9⟩ := hg
  cases st0 with
  | nil => cases hs
  | cons o st0 =>
    cases st with
    | nil => exact g2.elim
    | cons v st =>
      simp only [ab_getf] at hs
      cases hM : ab_mo Γ o with
      | none => rw [hM] at hs; cases hs
      | some M =>
        rw [hM] at hs
        simp only at hs
        obtain ⟨k, rfl, hk, ht⟩ := ab_mo_ok g8.1 g3 hM g2.1
        cases hτ : ab_ftj M pe.2.2.1 with
        | none => rw [hτ] at hs; cases hs
        | some τ =>
          rw [hτ] at hs
          simp only at hs
          cases e : (ab_fck M pe.2.1 pe.2.2.1 τ && ab_rng pe.2.2.1) with
          | false => rw [e] at hs; cases hs
          | true =>
            rw [e] at hs
            cases hs
            simp only [Bool.and_eq_true] at e
            obtain ⟨fs, w, r1, r2, r3⟩ := ab_fck_ok g8 ht hk e.1
            have hrd : ab_rd h k (Int32.ofInt (pe.2.2.1 : Int)).toInt = some w := by
              rw [ab_rng_ok e.2]
              unfold ab_rd
              rw [r1]
              simp only [decide_eq_false (show ¬ ((pe.2.2.1 : Int) < 0) by omega), cond_false, Int.toNat_natCast]
              exact r2
            obtain ⟨V', -, hg2⟩ := ab_load_ok (i := .inl (pe.2.2.1 : Int)) hg' g2.2 g2.1 (by show (bif ab_rng pe.2.2.1 then _ else none) = _; rw [e.2]; rfl) hrd r3
            refine ⟨(pc + 3, lv, w :: st, h, n, cs, ss), ?_, ab_in1 hg2⟩
            simp only [ax_s_getf, r1, beq_self_eq_true, cond_true, r2, Option.map_some]
/-- an index is within an array -/
def ab_fb (S : ab_S) (i : ab_V) (j : Int) : Bool := match ab_fd S.2.2.2.2.1 (.inr (.inr (.inl 28))) (.inl j) with
  | some b => ab_leq S.2.2.1 S.2.2.2.1 3 i b (-1)
  | none => false
def ab_inb (S : ab_S) (M N1 : Nat) (o i : ab_V) (p : Int × Int) : Bool := decide (0 ≤ p.1) && (decide (p.2 < N1) || (ab_rng N1 && ab_leq S.2.2.1 S.2.2.2.1 4 i (.inl N1) (-1) || ((match ab_fd S.2.2.2.2.1 o (.inl (-1)) with
  | some b => ab_leq S.2.2.1 S.2.2.2.1 3 i b (-1)
  | none => false) || (match ab_fd S.2.2.2.2.1 (.inr (.inr (.inl 28))) (.inl 4) with
  | some w => ab_veq w o && (ab_fb S i 6 || ab_fb S i 7)
  | none => false))))
theorem ab_leq_int {Γ : List ab_Y} {C : List (Nat × Nat × Int)} {f : Nat} {a b : ab_V} {c : Int} (hΓ : ab_ty n V Γ) (h : ab_leq Γ C f a b c = true) {v : Value} (hv : ab_cv V b = some v) : ∃ y : Int32, v = .int y := by
  unfold ab_leq ab_ub at h
  split at h
  · rename_i d hd
    split at hd
    · rename_i q hq
      obtain ⟨y, e, -⟩ := ab_iv_ok hΓ hq hv
      exact ⟨y, e⟩
    · cases hd
  · cases h
theorem ab_leq_int' {Γ : List ab_Y} {C : List (Nat × Nat × Int)} {f : Nat} {a b : ab_V} {c : Int} (hΓ : ab_ty n V Γ) (h : ab_leq Γ C f a b c = true) {v : Value} (hv : ab_cv V a = some v) : ∃ y : Int32, v = .int y := by
  have key : ∀ (q : Int), (ab_ubn Γ C b q f a).isSome = true → ab_veq a b = false → ∃ p, ab_iv Γ a = some p := by
    intro q hq hv
    cases f with
    | zero =>
      unfold ab_ubn at hq
      rw [hv] at hq
      cases e : ab_iv Γ a with
      | none => rw [e] at hq; cases hq
      | some p => exact ⟨p, rfl⟩
    | succ f =>
      unfold ab_ubn at hq
      rw [hv] at hq
      simp only [cond_false] at hq
      split at hq
      · cases e : ab_iv Γ _ with
        | none => rw [e] at hq; cases hq
        | some p => exact ⟨p, rfl⟩
      · cases e : ab_iv Γ a with
        | none => rw [e] at hq; cases hq
        | some p => exact ⟨p, rfl⟩
  cases e : ab_veq a b with
  | true => exact ab_leq_int hΓ h (by rw [← ab_veq_ok e]; exact hv)
  | false =>
    unfold ab_leq ab_ub at h
    split at h
    · rename_i d hd
      split at hd
      · obtain ⟨p, hp⟩ := key _ (by rw [hd]; rfl) e
        obtain ⟨y, e, -⟩ := ab_iv_ok hΓ hp hv
        exact ⟨y, e⟩
      · cases hd
    · cases h
theorem ab_ofN {N : Nat} (h : N < 2147483648) : (Int32.ofNat N).toInt = (N : Int) := by
  rw [Int32.toInt_ofNat_of_lt (by omega)]
theorem ab_fb_ok (g3 : ab_ty n V S.2.2.1) (g4 : ab_co V S.2.2.2.1) (g5 : ab_ca V h S.2.2.2.2.1) {i : ab_V} {x : Int32} (hi : ab_cv V i = some (.int x)) {j : Int} (hj : ab_rng j = true) (hb : ab_fb S i j = true) : x.toInt < ab_ri h 28 j := by
  unfold ab_fb at hb
  split at hb
  · rename_i b hf
    obtain ⟨w, h1, h2⟩ := ab_fd_ok g5 hf (k := 28) (x := Int32.ofInt j) rfl (by show (bif ab_rng j then _ else none) = _; rw [hj]; rfl)
    obtain ⟨y, rfl⟩ := ab_leq_int g3 hb h1
    have := ab_leq_ok g3 g4 hb hi h1
    rw [ab_rng_ok hj] at h2
    have h3 : ab_ri h 28 j = y.toInt := by unfold ab_ri; rw [h2]
    omega
  · cases hb
theorem ab_inb_ok (hg : ab_g E S V lv st h n cs ss) {M N1 : Nat} {o i : ab_V} {p : Int × Int} {k t N : Nat} {f : List (Nat × Int32) ⊕ List (Nat × Option Nat)} {x : Int32} (ho : ab_cv V o = some (.ref k)) (hi : ab_cv V i = some (.int x)) (hp : p.1 ≤ x.toInt ∧ x.toInt ≤ p.2) (hr : ax_raw h k = some (.inl (t, N, f))) (hN : N1 ≤ N) (hN2 : N < 2147483648) (hb : ab_inb S M N1 o i p = true) : 0 ≤ x.toInt ∧ x.toInt < N := by
  obtain ⟨g1, g2, g3, g4, g5, g6, g7, ⟨g8, g8', g8''⟩, g9⟩ := hg
  unfold ab_inb at hb
  simp only [Bool.and_eq_true, Bool.or_eq_true, decide_eq_true_eq] at hb
  obtain ⟨h0, hb⟩ := hb
  refine ⟨by omega, ?_⟩
  rcases hb with hb | ⟨hb1, hb⟩ | hb | hb
  · omega
  · have := ab_leq_ok g3 g4 hb hi (show ab_cv V (.inl (N1 : Int)) = some (.int (Int32.ofInt N1)) by show (bif ab_rng N1 then _ else none) = _; rw [hb1]; rfl)
    rw [ab_rng_ok hb1] at this
    omega
  · split at hb
    · rename_i b hf
      obtain ⟨w, h1, h2⟩ := ab_fd_ok g5 hf ho (x := Int32.ofInt (-1)) rfl
      rw [show (Int32.ofInt (-1)).toInt = -1 from rfl, ab_rd_len hr] at h2
      cases h2
      have := ab_leq_ok g3 g4 hb hi h1
      rw [ab_ofN hN2] at this
      omega
    · cases hb
  · split at hb
    · rename_i w hf
      simp only [Bool.and_eq_true, Bool.or_eq_true] at hb
      obtain ⟨hb1, hb⟩ := hb
      obtain ⟨w', h1, h2⟩ := ab_fd_ok g5 hf (k := 28) (x := Int32.ofInt 4) rfl rfl
      rw [ab_veq_ok hb1, ho] at h1
      cases h1
      have hJ := g8.2.2.1.2.2 k h2
      have hl : ab_ri h k (-1) = N := by unfold ab_ri; rw [ab_rd_len hr]; exact ab_ofN hN2
      rcases hb with hb | hb
      · have := ab_fb_ok g3 g4 g5 hi (by decide) hb
        omega
      · have := ab_fb_ok g3 g4 g5 hi (by decide) hb
        omega
    · cases hb
/-- the type that all first elements were told to have -/
def ab_zt (S : ab_S) (o i : ab_V) (τ : ab_Y) : ab_Y := match S.2.2.2.2.2.1.find? (fun z => ab_veq z.1 o && ab_leq S.2.2.1 S.2.2.2.1 3 i z.2.1 (-1)) with
  | some z => z.2.2
  | none => τ
theorem ab_zt_ok (hg : ab_g E S V lv st h n cs ss) {o i : ab_V} {τ : ab_Y} {k : Nat} {x : Int32} {w : Value} (ho : ab_cv V o = some (.ref k)) (hi : ab_cv V i = some (.int x)) (hx : 0 ≤ x.toInt) (hr : ab_rd h k x.toInt = some w) (hw : ab_ok n w τ) : ab_ok n w (ab_zt S o i τ) := by
  obtain ⟨g1, g2, g3, g4, g5, g6, g7, g8, g9⟩ := hg
  unfold ab_zt
  split
  · rename_i z hz
    have h1 := List.find?_some hz
    simp only [Bool.and_eq_true] at h1
    obtain ⟨k', b, e1, e2, e3⟩ := g6 z (List.mem_of_find?_eq_some hz)
    rw [ab_veq_ok h1.1, ho] at e1
    cases e1
    have := ab_leq_ok g3 g4 h1.2 hi e2
    obtain ⟨w', f1, f2⟩ := e3 x.toInt hx (by omega)
    rw [hr] at f1
    cases f1
    exact f2
  · exact hw
theorem ab_lim_g (hg : ab_g E S V lv st h n cs ss) {i : ab_V} {x : Int32} (hi : ab_cv V i = some (.int x)) {lo hi' : Int} (h1 : lo ≤ x.toInt) (h2 : x.toInt ≤ hi') : ∃ Γ', ab_lim S.2.2.1 i lo hi' = some Γ' ∧ ab_g E (S.1, S.2.1, Γ', S.2.2.2) V lv st h n cs ss := by
  obtain ⟨g1, g2, g3, g4, g5, g6, g7, g8, g9⟩ := hg
  obtain ⟨Γ', e, t⟩ := ab_lim_ok g3 hi h1 h2
  exact ⟨Γ', e, g1, g2, t, g4, g5, g6, g7, g8, g9⟩
def ab_ci (p : Int × Int) : Option Nat := bif decide (p.1 = p.2) then some p.1.toNat else none
def ab_ald (t : Nat) (S : ab_S) (pc : Nat) : ab_L := match S.2.1 with
  | i :: o :: st => match ab_iv S.2.2.1 i, ab_mo S.2.2.1 o with
    | some p, some M => match ab_lens M, ab_atj M (ab_ci p) with
      | some (N1, N2), some τ => bif ab_ack M t (ab_ci p) τ && ab_inb S M N1 o i p then (match ab_lim S.2.2.1 i 0 ((N2 : Int) - 1) with
          | some Γ' => some [(pc + 1, ab_load (S.1, S.2.1, Γ', S.2.2.2) st o i (ab_zt S o i τ))]
          | none => none) else none
      | _, _ => none
    | _, _ => none
  | _ => none
theorem ab_ald_ok (hg : ab_g E S V lv st h n cs ss) {t : Nat} (ht : t < 2) (hs : ab_ald t S pc = some L) : ∃ (i : Int32) (k N : Nat) (f : List (Nat × Int32)) (st' : List Value), st = .int i :: .ref k :: st' ∧ ax_raw h k = some (.inl (t, N, .inl f)) ∧ ax_inB i N = true ∧ ab_in E L (pc + 1, lv, .int (ax_fi f i.toNatClampNeg) :: st', h, n, cs, ss) := by
  obtain ⟨lv0, st0, Γ, C, rest⟩ := S
  have hg' := hg
  obtain ⟨g1, g2, g3, g4, g5, g6, g7, ⟨g8, g8', g8''⟩, g9⟩ := hg
  match st0, st, g2, hs with
  | [], _, _, hs => cases hs
  | [_], _, _, hs => cases hs
  | i :: o :: sta, [], g2, _ => exact g2.elim
  | i :: o :: sta, [v], g2, _ => exact g2.2.elim
  | i :: o :: sta, v :: w :: st', g2, hs =>
    simp only [ab_ald] at hs
    split at hs
    · rename_i p M hp hM
      obtain ⟨x, rfl, hx⟩ := ab_iv_ok g3 hp g2.1
      obtain ⟨k, rfl, hk, hb⟩ := ab_mo_ok g8.1 g3 hM g2.2.1
      split at hs
      · rename_i N1 N2 τ hl hτ
        obtain ⟨hc, hs⟩ := ab_bif hs
        simp only [Bool.and_eq_true] at hc
        obtain ⟨N, f, r1, r2, r3⟩ := ab_ack_ok g8 hb hk ht hc.1
        obtain ⟨l1, l2, l3⟩ := ab_lens_ok g8 hb hk r1 hl
        have hin := ab_inb_ok hg' g2.2.1 g2.1 hx r1 l1 l3 hc.2
        have hxN : x.toNatClampNeg = x.toInt.toNat := rfl
        obtain ⟨Γ', e1, e2⟩ := ab_lim_g hg' (i := i) g2.1 (lo := 0) (hi' := (N2 : Int) - 1) hin.1 (by omega)
        rw [e1] at hs
        cases hs
        have hval : ab_ok n (.int (ax_fi f x.toNatClampNeg)) τ := by
          refine r3 _ (by omega) fun j hj => ?_
          unfold ab_ci at hj
          obtain ⟨hpp, hj⟩ := ab_bif hj
          cases hj
          have := of_decide_eq_true hpp
          have : x.toInt = p.1 := by omega
          rw [hxN, this]
        have hrd : ab_rd h k x.toInt = some (.int (ax_fi f x.toNatClampNeg)) := by
          unfold ab_rd
          rw [r1]
          simp only [decide_eq_false (show ¬ x.toInt < 0 by omega), cond_false]
          rfl
        obtain ⟨V', -, hg2⟩ := ab_load_ok e2 g2.2.2 g2.2.1 g2.1 hrd (ab_zt_ok hg' (o := o) (i := i) g2.2.1 g2.1 hin.1 hrd hval)
        exact ⟨x, k, N, f, st', rfl, r1, by simp only [ax_inB, decide_eq_true hin.1, decide_eq_true hin.2, Bool.and_self], ab_in1 hg2⟩
      · cases hs
    · cases hs
end CEL
