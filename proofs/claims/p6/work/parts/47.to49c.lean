section
/-! ===== reading and writing cells, over abstract states ===== -/
theorem ab_bif {α : Type} {b : Bool} {x : Option α} {y : α} (h : (bif b then x else none) = some y) : b = true ∧ x = some y := by
  cases b with
  | false => cases h
  | true => exact ⟨rfl, h⟩
def ab_jf (a b : Int) (f : Nat) (c d : Int) (g : Nat) : Nat :=
  bif (Nat.beq f 3 || Nat.beq g 3) && (ab_fge a b f 3 && ab_fge c d g 3) then 3
  else bif (Nat.beq f 1 || Nat.beq g 1) && (ab_fge a b f 1 && ab_fge c d g 1) then 1
  else bif (Nat.beq f 2 || Nat.beq g 2) && (ab_fge a b f 2 && ab_fge c d g 2) then 2 else 0
/-- two types joined (checked where it is used) -/
def ab_jy (τ σ : ab_Y) : ab_Y := match τ, σ with
  | .inl (a, b, f), .inl (c, d, g) => .inl (min a c, max b d, ab_jf a b f c d g)
  | .inr (some M), .inr (some N) => .inr (some (M ||| N))
  | τ, _ => τ
def ab_jo (o : Option ab_Y) (σ : ab_Y) : Option ab_Y := match o with
  | some τ => some (ab_jy τ σ)
  | none => some σ
def ab_ftj (M j : Nat) : Option ab_Y := (ab_ks M).foldl (fun (o : Option ab_Y) (κ : Nat) => match ab_K[κ]? with
  | some (.inr (_, τs)) => (match τs[j]? with
    | some σ => ab_jo o σ
    | none => o)
  | _ => o) none
def ab_atj (M : Nat) (c : Option Nat) : Option ab_Y := (ab_ks M).foldl (fun (o : Option ab_Y) (κ : Nat) => match ab_K[κ]? with
  | some (.inl (_, _, _, σ, σs)) => ab_jo o (match c with
    | some i => σs.getD i σ
    | none => σ)
  | _ => o) none
/-- least and greatest length -/
def ab_lens (M : Nat) : Option (Nat × Nat) := match (ab_ks M).foldl (fun o κ => match ab_K[κ]? with
    | some (.inl (_, N1, N2, _)) => (match o with
      | some (a, b) => some (min a N1, max b N2)
      | none => some (N1, N2))
    | _ => o) (none : Option (Nat × Nat)) with
  | some (a, b) => bif (ab_ks M).all (fun κ => match ab_K[κ]? with
      | some (.inl (_, N1, N2, _)) => Nat.ble a N1 && Nat.ble N2 b
      | _ => false) then some (a, b) else none
  | none => none
theorem ab_lens_ok {h : ax_H} {n M k t N : Nat} {f : List (Nat × Int32) ⊕ List (Nat × Option Nat)} (hH : ab_HT h n) (hM : M.testBit (ab_k k) = true) (hk : k < n) (hr : ax_raw h k = some (.inl (t, N, f))) {a b : Nat} (hl : ab_lens M = some (a, b)) : a ≤ N ∧ N ≤ b ∧ N < 2147483648 := by
  obtain ⟨t', N1, N2, σ, σs, h1, h2, h3, h4⟩ := ab_len_ok hH hk hr
  unfold ab_lens at hl
  split at hl
  · rename_i a' b' _
    obtain ⟨hall, hl⟩ := ab_bif hl
    cases hl
    have := List.all_eq_true.mp hall _ (ab_ks_in hM h1)
    rw [h1] at this
    simp only [Bool.and_eq_true, Nat.ble_eq] at this
    omega
  · cases hl
section CEL
variable {E : ab_E} {S : ab_S} {V : List Value} {pc nL : Nat} {lv : List (Nat × Value)} {st : List Value} {h : ax_H} {n cs ss : Nat} {L : List (Nat × ab_S)} {iv : Nat → Int × Int} {pe : ax_PE}
def ab_getf (pe : ax_PE) (S : ab_S) (pc : Nat) : ab_L := match S.2.1 with
  | o :: st => match ab_mo S.2.2.1 o with
    | some M => match ab_ftj M pe.2.2.1 with
      | some τ => bif ab_fck M pe.2.1 pe.2.2.1 τ && ab_rng pe.2.2.1 then some [(pc + 3, ab_load S st o (.inl pe.2.2.1) τ)] else none
      | none => none
    | none => none
  | [] => none
theorem ab_getf_ok (hg : ab_g E S V lv st h n cs ss) (hs : ab_getf pe S pc = some L) : ∃ F, ax_s_getf pe pc lv st h n cs ss = some F ∧ ab_in E L F := by
  obtain ⟨lv0, st0, Γ, rest⟩ := S
  have hg' := hg
  obtain ⟨g1, g2, g3, g4, g5, g6, g7, ⟨g8, g8', g8''⟩, g9⟩ := hg
  cases st0 with
  | nil => cases hs
  | cons o st0 =>
    cases st with
    | nil => exact g2.elim
    | cons v st =>
      simp only [ab_getf] at hs
      cases hM : ab_mo Γ o with
      | none => rw [hM] at hs; cases hs
      | some M =>
        rw [hM] at hs
        simp only at hs
        obtain ⟨k, rfl, hk, ht⟩ := ab_mo_ok g8.1 g3 hM g2.1
        cases hτ : ab_ftj M pe.2.2.1 with
        | none => rw [hτ] at hs; cases hs
        | some τ =>
          rw [hτ] at hs
          simp only at hs
          cases e : (ab_fck M pe.2.1 pe.2.2.1 τ && ab_rng pe.2.2.1) with
          | false => rw [e] at hs; cases hs
          | true =>
            rw [e] at hs
            cases hs
            simp only [Bool.and_eq_true] at e
            obtain ⟨fs, w, r1, r2, r3⟩ := ab_fck_ok g8 ht hk e.1
            have hrd : ab_rd h k (Int32.ofInt (pe.2.2.1 : Int)).toInt = some w := by
              rw [ab_rng_ok e.2]
              unfold ab_rd
              rw [r1]
              simp only [decide_eq_false (show ¬ ((pe.2.2.1 : Int) < 0) by omega), cond_false, Int.toNat_natCast]
              exact r2
            obtain ⟨V', -, hg2⟩ := ab_load_ok (i := .inl (pe.2.2.1 : Int)) hg' g2.2 g2.1 (by show (bif ab_rng pe.2.2.1 then _ else none) = _; rw [e.2]; rfl) hrd r3
            refine ⟨(pc + 3, lv, w :: st, h, n, cs, ss), ?_, ab_in1 hg2⟩
            simp only [ax_s_getf, r1, beq_self_eq_true, cond_true, r2, Option.map_some]
/-- an index is within an array -/
def ab_fb (S : ab_S) (i : ab_V) (j : Int) : Bool := match ab_fd S.2.2.2.2.1 (.inr (.inr (.inl 28))) (.inl j) with
  | some b => ab_leq S.2.2.1 S.2.2.2.1 3 i b (-1)
  | none => false
def ab_inb (S : ab_S) (M N1 : Nat) (o i : ab_V) (p : Int × Int) : Bool := decide (0 ≤ p.1) && (decide (p.2 < N1) || (ab_rng N1 && ab_leq S.2.2.1 S.2.2.2.1 4 i (.inl N1) (-1) || ((match ab_fd S.2.2.2.2.1 o (.inl (-1)) with
  | some b => ab_leq S.2.2.1 S.2.2.2.1 3 i b (-1)
  | none => false) || (match ab_fd S.2.2.2.2.1 (.inr (.inr (.inl 28))) (.inl 4) with
  | some w => ab_veq w o && (ab_fb S i 6 || ab_fb S i 7)
  | none => false))))
theorem ab_leq_int {Γ : List ab_Y} {C : List (Nat × Nat × Int)} {f : Nat} {a b : ab_V} {c : Int} (hΓ : ab_ty n V Γ) (h : ab_leq Γ C f a b c = true) {v : Value} (hv : ab_cv V b = some v) : ∃ y : Int32, v = .int y := by
  unfold ab_leq ab_ub at h
  split at h
  · rename_i d hd
    split at hd
    · rename_i q hq
      obtain ⟨y, e, -⟩ := ab_iv_ok hΓ hq hv
      exact ⟨y, e⟩
    · cases hd
  · cases h
theorem ab_leq_int' {Γ : List ab_Y} {C : List (Nat × Nat × Int)} {f : Nat} {a b : ab_V} {c : Int} (hΓ : ab_ty n V Γ) (h : ab_leq Γ C f a b c = true) {v : Value} (hv : ab_cv V a = some v) : ∃ y : Int32, v = .int y := by
  have key : ∀ (q : Int), (ab_ubn Γ C b q f a).isSome = true → ab_veq a b = false → ∃ p, ab_iv Γ a = some p := by
    intro q hq hv
    cases f with
    | zero =>
      unfold ab_ubn at hq
      rw [hv] at hq
      cases e : ab_iv Γ a with
      | none => rw [e] at hq; cases hq
      | some p => exact ⟨p, rfl⟩
    | succ f =>
      unfold ab_ubn at hq
      rw [hv] at hq
      simp only [cond_false] at hq
      split at hq
      · cases e : ab_iv Γ _ with
        | none => rw [e] at hq; cases hq
        | some p => exact ⟨p, rfl⟩
      · cases e : ab_iv Γ a with
        | none => rw [e] at hq; cases hq
        | some p => exact ⟨p, rfl⟩
  cases e : ab_veq a b with
  | true => exact ab_leq_int hΓ h (by rw [← ab_veq_ok e]; exact hv)
  | false =>
    unfold ab_leq ab_ub at h
    split at h
    · rename_i d hd
      split at hd
      · obtain ⟨p, hp⟩ := key _ (by rw [hd]; rfl) e
        obtain ⟨y, e, -⟩ := ab_iv_ok hΓ hp hv
        exact ⟨y, e⟩
      · cases hd
    · cases h
theorem ab_ofN {N : Nat} (h : N < 2147483648) : (Int32.ofNat N).toInt = (N : Int) := by
  rw [Int32.toInt_ofNat_of_lt (by omega)]
theorem ab_fb_ok (g3 : ab_ty n V S.2.2.1) (g4 : ab_co V S.2.2.2.1) (g5 : ab_ca V h S.2.2.2.2.1) {i : ab_V} {x : Int32} (hi : ab_cv V i = some (.int x)) {j : Int} (hj : ab_rng j = true) (hb : ab_fb S i j = true) : x.toInt < ab_ri h 28 j := by
  unfold ab_fb at hb
  split at hb
  · rename_i b hf
    obtain ⟨w, h1, h2⟩ := ab_fd_ok g5 hf (k := 28) (x := Int32.ofInt j) rfl (by show (bif ab_rng j then _ else none) = _; rw [hj]; rfl)
    obtain ⟨y, rfl⟩ := ab_leq_int g3 hb h1
    have := ab_leq_ok g3 g4 hb hi h1
    rw [ab_rng_ok hj] at h2
    have h3 : ab_ri h 28 j = y.toInt := by unfold ab_ri; rw [h2]
    omega
  · cases hb
theorem ab_inb_ok (hg : ab_g E S V lv st h n cs ss) {M N1 : Nat} {o i : ab_V} {p : Int × Int} {k t N : Nat} {f : List (Nat × Int32) ⊕ List (Nat × Option Nat)} {x : Int32} (ho : ab_cv V o = some (.ref k)) (hi : ab_cv V i = some (.int x)) (hp : p.1 ≤ x.toInt ∧ x.toInt ≤ p.2) (hr : ax_raw h k = some (.inl (t, N, f))) (hN : N1 ≤ N) (hN2 : N < 2147483648) (hb : ab_inb S M N1 o i p = true) : 0 ≤ x.toInt ∧ x.toInt < N := by
  obtain ⟨g1, g2, g3, g4, g5, g6, g7, ⟨g8, g8', g8''⟩, g9⟩ := hg
  unfold ab_inb at hb
  simp only [Bool.and_eq_true, Bool.or_eq_true, decide_eq_true_eq] at hb
  obtain ⟨h0, hb⟩ := hb
  refine ⟨by omega, ?_⟩
  rcases hb with hb | ⟨hb1, hb⟩ | hb | hb
  · omega
  · have := ab_leq_ok g3 g4 hb hi (show ab_cv V (.inl (N1 : Int)) = some (.int (Int32.ofInt N1)) by show (bif ab_rng N1 then _ else none) = _; rw [hb1]; rfl)
    rw [ab_rng_ok hb1] at this
    omega
  · split at hb
    · rename_i b hf
      obtain ⟨w, h1, h2⟩ := ab_fd_ok g5 hf ho (x := Int32.ofInt (-1)) rfl
      rw [show (Int32.ofInt (-1)).toInt = -1 from rfl, ab_rd_len hr] at h2
      cases h2
      have := ab_leq_ok g3 g4 hb hi h1
      rw [ab_ofN hN2] at this
      omega
    · cases hb
  · split at hb
    · rename_i w hf
      simp only [Bool.and_eq_true, Bool.or_eq_true] at hb
      obtain ⟨hb1, hb⟩ := hb
      obtain ⟨w', h1, h2⟩ := ab_fd_ok g5 hf (k := 28) (x := Int32.ofInt 4) rfl rfl
      rw [ab_veq_ok hb1, ho] at h1
      cases h1
      have hJ := g8.2.2.1.2.2 k h2
      have hl : ab_ri h k (-1) = N := by unfold ab_ri; rw [ab_rd_len hr]; exact ab_ofN hN2
      rcases hb with hb | hb
      · have := ab_fb_ok g3 g4 g5 hi (by decide) hb
        omega
      · have := ab_fb_ok g3 g4 g5 hi (by decide) hb
        omega
    · cases hb
/-- the type that all first elements were told to have -/
def ab_zt (S : ab_S) (o i : ab_V) (τ : ab_Y) : ab_Y := match S.2.2.2.2.2.1.find? (fun z => ab_veq z.1 o && ab_leq S.2.2.1 S.2.2.2.1 3 i z.2.1 (-1)) with
  | some z => z.2.2
  | none => τ
theorem ab_zt_ok (hg : ab_g E S V lv st h n cs ss) {o i : ab_V} {τ : ab_Y} {k : Nat} {x : Int32} {w : Value} (ho : ab_cv V o = some (.ref k)) (hi : ab_cv V i = some (.int x)) (hx : 0 ≤ x.toInt) (hr : ab_rd h k x.toInt = some w) (hw : ab_ok n w τ) : ab_ok n w (ab_zt S o i τ) := by
  obtain ⟨g1, g2, g3, g4, g5, g6, g7, g8, g9⟩ := hg
  unfold ab_zt
  split
  · rename_i z hz
    have h1 := List.find?_some hz
    simp only [Bool.and_eq_true] at h1
    obtain ⟨k', b, e1, e2, e3⟩ := g6 z (List.mem_of_find?_eq_some hz)
    rw [ab_veq_ok h1.1, ho] at e1
    cases e1
    have := ab_leq_ok g3 g4 h1.2 hi e2
    obtain ⟨w', f1, f2⟩ := e3 x.toInt hx (by omega)
    rw [hr] at f1
    cases f1
    exact f2
  · exact hw
theorem ab_lim_g (hg : ab_g E S V lv st h n cs ss) {i : ab_V} {x : Int32} (hi : ab_cv V i = some (.int x)) {lo hi' : Int} (h1 : lo ≤ x.toInt) (h2 : x.toInt ≤ hi') : ∃ Γ', ab_lim S.2.2.1 i lo hi' = some Γ' ∧ ab_g E (S.1, S.2.1, Γ', S.2.2.2) V lv st h n cs ss := by
  obtain ⟨g1, g2, g3, g4, g5, g6, g7, g8, g9⟩ := hg
  obtain ⟨Γ', e, t⟩ := ab_lim_ok g3 hi h1 h2
  exact ⟨Γ', e, g1, g2, t, g4, g5, g6, g7, g8, g9⟩
def ab_ci (p : Int × Int) : Option Nat := bif decide (p.1 = p.2) then some p.1.toNat else none
def ab_ald (t : Nat) (S : ab_S) (pc : Nat) : ab_L := match S.2.1 with
  | i :: o :: st => match ab_iv S.2.2.1 i, ab_mo S.2.2.1 o with
    | some p, some M => match ab_lens M, ab_atj M (ab_ci p) with
      | some (N1, N2), some τ => bif ab_ack M t (ab_ci p) τ && ab_inb S M N1 o i p then (match ab_lim S.2.2.1 i 0 ((N2 : Int) - 1) with
          | some Γ' => some [(pc + 1, ab_load (S.1, S.2.1, Γ', S.2.2.2) st o i (ab_zt S o i τ))]
          | none => none) else none
      | _, _ => none
    | _, _ => none
  | _ => none
theorem ab_ald_ok (hg : ab_g E S V lv st h n cs ss) {t : Nat} (ht : t < 2) (hs : ab_ald t S pc = some L) : ∃ (i : Int32) (k N : Nat) (f : List (Nat × Int32)) (st' : List Value), st = .int i :: .ref k :: st' ∧ ax_raw h k = some (.inl (t, N, .inl f)) ∧ ax_inB i N = true ∧ ab_in E L (pc + 1, lv, .int (ax_fi f i.toNatClampNeg) :: st', h, n, cs, ss) := by
  obtain ⟨lv0, st0, Γ, C, rest⟩ := S
  have hg' := hg
  obtain ⟨g1, g2, g3, g4, g5, g6, g7, ⟨g8, g8', g8''⟩, g9⟩ := hg
  match st0, st, g2, hs with
  | [], _, _, hs => cases hs
  | [_], _, _, hs => cases hs
  | i :: o :: sta, [], g2, _ => exact g2.elim
  | i :: o :: sta, [v], g2, _ => exact g2.2.elim
  | i :: o :: sta, v :: w :: st', g2, hs =>
    simp only [ab_ald] at hs
    split at hs
    · rename_i p M hp hM
      obtain ⟨x, rfl, hx⟩ := ab_iv_ok g3 hp g2.1
      obtain ⟨k, rfl, hk, hb⟩ := ab_mo_ok g8.1 g3 hM g2.2.1
      split at hs
      · rename_i N1 N2 τ hl hτ
        obtain ⟨hc, hs⟩ := ab_bif hs
        simp only [Bool.and_eq_true] at hc
        obtain ⟨N, f, r1, r2, r3⟩ := ab_ack_ok g8 hb hk ht hc.1
        obtain ⟨l1, l2, l3⟩ := ab_lens_ok g8 hb hk r1 hl
        have hin := ab_inb_ok hg' g2.2.1 g2.1 hx r1 l1 l3 hc.2
        have hxN : x.toNatClampNeg = x.toInt.toNat := rfl
        obtain ⟨Γ', e1, e2⟩ := ab_lim_g hg' (i := i) g2.1 (lo := 0) (hi' := (N2 : Int) - 1) hin.1 (by omega)
        rw [e1] at hs
        cases hs
        have hval : ab_ok n (.int (ax_fi f x.toNatClampNeg)) τ := by
          refine r3 _ (by omega) fun j hj => ?_
          unfold ab_ci at hj
          obtain ⟨hpp, hj⟩ := ab_bif hj
          cases hj
          have := of_decide_eq_true hpp
          have : x.toInt = p.1 := by omega
          rw [hxN, this]
        have hrd : ab_rd h k x.toInt = some (.int (ax_fi f x.toNatClampNeg)) := by
          unfold ab_rd
          rw [r1]
          simp only [decide_eq_false (show ¬ x.toInt < 0 by omega), cond_false]
          rfl
        obtain ⟨V', -, hg2⟩ := ab_load_ok e2 g2.2.2 g2.2.1 g2.1 hrd (ab_zt_ok hg' (o := o) (i := i) g2.2.1 g2.1 hin.1 hrd hval)
        exact ⟨x, k, N, f, st', rfl, r1, by simp only [ax_inB, decide_eq_true hin.1, decide_eq_true hin.2, Bool.and_self], ab_in1 hg2⟩
      · cases hs
    · cases hs
end CEL
end
section
/-! ===== arrays of cells, static arrays, writing ===== -/
section STO
variable {E : ab_E} {S : ab_S} {V : List Value} {pc nL : Nat} {lv : List (Nat × Value)} {st : List Value} {h : ax_H} {n cs ss : Nat} {L : List (Nat × ab_S)} {iv : Nat → Int × Int} {pe : ax_PE}
def ab_t0 (M : Nat) : Nat := match ab_ks M with
  | κ :: _ => (match ab_K[κ]? with
    | some (.inl (t, _)) => t
    | _ => 0)
  | [] => 0
def ab_aald (S : ab_S) (pc : Nat) : ab_L := match S.2.1 with
  | i :: o :: st => match ab_iv S.2.2.1 i, ab_mo S.2.2.1 o with
    | some p, some M => match ab_lens M, ab_atj M none with
      | some (N1, N2), some τ => bif (Nat.ble 2 (ab_t0 M) && Nat.blt (ab_t0 M) 5) && (ab_ack M (ab_t0 M) none τ && ab_inb S M N1 o i p) then (match ab_lim S.2.2.1 i 0 ((N2 : Int) - 1) with
          | some Γ' => some [(pc + 1, ab_load (S.1, S.2.1, Γ', S.2.2.2) st o i τ)]
          | none => none) else none
      | _, _ => none
    | _, _ => none
  | _ => none
theorem ab_aald_ok (hg : ab_g E S V lv st h n cs ss) (hs : ab_aald S pc = some L) : ∃ F, ax_s_aald pc lv st h n cs ss = some F ∧ ab_in E L F := by
  obtain ⟨lv0, st0, Γ, C, rest⟩ := S
  have hg' := hg
  obtain ⟨g1, g2, g3, g4, g5, g6, g7, ⟨g8, g8', g8''⟩, g9⟩ := hg
  match st0, st, g2, hs with
  | [], _, _, hs => cases hs
  | [_], _, _, hs => cases hs
  | i :: o :: sta, [], g2, _ => exact g2.elim
  | i :: o :: sta, [v], g2, _ => exact g2.2.elim
  | i :: o :: sta, v :: w :: st', g2, hs =>
    simp only [ab_aald] at hs
    split at hs
    · rename_i p M hp hM
      obtain ⟨x, rfl, hx⟩ := ab_iv_ok g3 hp g2.1
      obtain ⟨k, rfl, hk, hb⟩ := ab_mo_ok g8.1 g3 hM g2.2.1
      split at hs
      · rename_i N1 N2 τ hl hτ
        generalize ab_t0 M = t at hs
        obtain ⟨hc, hs⟩ := ab_bif hs
        simp only [Bool.and_eq_true, Nat.ble_eq, Nat.blt_eq] at hc
        obtain ⟨⟨t1, t2⟩, hc⟩ := hc
        obtain ⟨N, f, r1, r2, r3⟩ := ab_ack_ref g8 hb hk t1 hc.1
        obtain ⟨l1, l2, l3⟩ := ab_lens_ok g8 hb hk r1 hl
        have hin := ab_inb_ok hg' g2.2.1 g2.1 hx r1 l1 l3 hc.2
        have hxN : x.toNatClampNeg = x.toInt.toNat := rfl
        obtain ⟨Γ', e1, e2⟩ := ab_lim_g hg' (i := i) g2.1 (lo := 0) (hi' := (N2 : Int) - 1) hin.1 (by omega)
        rw [e1] at hs
        cases hs
        obtain ⟨k', f1, f2⟩ := r3 x.toNatClampNeg (by omega)
        have hrd : ab_rd h k x.toInt = some (.ref k') := by
          unfold ab_rd
          rw [r1]
          simp only [decide_eq_false (show ¬ x.toInt < 0 by omega), cond_false]
          rw [show x.toInt.toNat = x.toNatClampNeg from rfl, f1]
          rfl
        obtain ⟨V', -, hg2⟩ := ab_load_ok e2 g2.2.2 g2.2.1 g2.1 hrd f2
        have htc : ∃ q, ax_tc t = some q := by
          match t, t1, t2 with
          | 2, _, _ => exact ⟨_, rfl⟩
          | 3, _, _ => exact ⟨_, rfl⟩
          | 4, _, _ => exact ⟨_, rfl⟩
        obtain ⟨q, hq⟩ := htc
        have hB : ax_inB x N = true := by simp only [ax_inB, decide_eq_true hin.1, decide_eq_true hin.2, Bool.and_self]
        refine ⟨(pc + 1, lv, .ref k' :: st', h, n, cs, ss), ?_, ab_in1 hg2⟩
        simp only [ax_s_aald, r1, hq, hB, cond_true, f1, Option.map_some]
      · cases hs
    · cases hs
/-- a static array's least and greatest between two places -/
def ab_mm (L : List Int32) : Option (Int × Int) := match L with
  | [] => none
  | x :: L => some (L.foldl (fun r y => (min r.1 y.toInt, max r.2 y.toInt)) (x.toInt, x.toInt))
def ab_sald (S : ab_S) (pc : Nat) : ab_L := match S.2.1 with
  | i :: .inr (.inr (.inr j)) :: st => match ab_iv S.2.2.1 i, ax_st[j]? with
    | some p, some z => match ab_mm ((z.2.2.drop p.1.toNat).take (p.2 - p.1 + 1).toNat) with
      | some r => bif decide (0 ≤ p.1) && (decide (p.2 < z.2.2.length) && ((z.2.2.drop p.1.toNat).take (p.2 - p.1 + 1).toNat).all (fun y => decide (r.1 ≤ y.toInt) && decide (y.toInt ≤ r.2))) then some [(pc + 1, ab_put S st (ab_mk r.1 r.2 0 []))] else none
      | none => none
    | _, _ => none
  | _ => none
theorem ab_sald_ok (hg : ab_g E S V lv st h n cs ss) (hs : ab_sald S pc = some L) : ∃ F, ax_s_iald pc lv st h n cs ss = some F ∧ ab_in E L F := by
  obtain ⟨lv0, st0, Γ, C, rest⟩ := S
  have hg' := hg
  obtain ⟨g1, g2, g3, g4, g5, g6, g7, ⟨g8, g8', g8''⟩, g9⟩ := hg
  unfold ab_sald at hs
  split at hs
  · rename_i i j sta hst
    simp only at hst
    subst hst
    match st, g2 with
    | [], g2 => exact g2.elim
    | [_], g2 => exact g2.2.elim
    | v :: w :: st', g2 =>
      obtain ⟨h1, h2, h3⟩ := g2
      cases h2
      split at hs
      · rename_i p z hp hz
        obtain ⟨x, rfl, hx⟩ := ab_iv_ok g3 hp h1
        split at hs
        · rename_i r hr
          obtain ⟨hc, hs⟩ := ab_bif hs
          simp only [Bool.and_eq_true, decide_eq_true_eq] at hc
          obtain ⟨c1, c2, c3⟩ := hc
          cases hs
          have hxN : x.toNatClampNeg = x.toInt.toNat := rfl
          have hlt : x.toNatClampNeg < z.2.2.length := by omega
          have hB : ax_inB x z.2.2.length = true := by simp only [ax_inB, decide_eq_true (show 0 ≤ x.toInt by omega), decide_eq_true (show x.toInt < (z.2.2.length : Int) by omega), Bool.and_self]
          have hmem : z.2.2.getD x.toNatClampNeg 0 ∈ (z.2.2.drop p.1.toNat).take (p.2 - p.1 + 1).toNat := by
            rw [List.getD_eq_getElem?_getD, List.getElem?_eq_getElem hlt]
            refine List.mem_of_getElem? (i := x.toNatClampNeg - p.1.toNat) ?_
            rw [List.getElem?_take_of_lt (by omega), List.getElem?_drop, show p.1.toNat + (x.toNatClampNeg - p.1.toNat) = x.toNatClampNeg by omega, List.getElem?_eq_getElem hlt]
            rfl
          have hb := List.all_eq_true.mp c3 _ hmem
          simp only [Bool.and_eq_true, decide_eq_true_eq] at hb
          obtain ⟨V', hg2⟩ := ab_put_ok hg' h3 (r := ab_mk r.1 r.2 0 []) (w := .int (z.2.2.getD x.toNatClampNeg 0)) (ab_mk_ok fun _ _ => ⟨hb.1, hb.2, trivial, ab_no⟩)
          refine ⟨_, ?_, ab_in1 hg2⟩
          simp only [ax_s_iald, hz, hB, cond_true]
        · cases hs
      · cases hs
  · cases hs
/-- all kinds of an array may be written so -/
def ab_wok (md : List (Nat × Int)) (Γ : List ab_Y) (t : Nat) (v : ab_V) (M : Nat) : Bool := (ab_ks M).all fun κ => match ab_K[κ]? with
  | some (.inl (t', _, _, σ, σs)) => Nat.beq t' t && (σs.isEmpty && (ab_is Γ v σ && (!(Nat.beq κ 30 || (Nat.beq κ 33 || (Nat.beq κ 64 || Nat.beq κ 52))) && md.any (fun q => Nat.testBit q.1 κ && decide (q.2 = -2)))))
  | _ => false
def ab_ast (md : List (Nat × Int)) (t : Nat) (S : ab_S) (pc : Nat) : ab_L := match S.2.1 with
  | v :: i :: o :: st => match ab_iv S.2.2.1 i, ab_mo S.2.2.1 o, ab_iv S.2.2.1 v with
    | some p, some M, some pv => match ab_lens M with
      | some (N1, N2) => bif ab_wok md S.2.2.1 t v M && (ab_inb S M N1 o i p && (Nat.beq t 0 || decide (-128 ≤ pv.1) && decide (pv.2 ≤ 127))) then (match ab_lim S.2.2.1 i 0 ((N2 : Int) - 1) with
          | some Γ' => some [(pc + 1, ab_wr (S.1, S.2.1, Γ', S.2.2.2) st o i v)]
          | none => none) else none
      | none => none
    | _, _, _ => none
  | _ => none
theorem ab_ast_ok (hg : ab_g E S V lv st h n cs ss) {t : Nat} (ht : t < 2) (hs : ab_ast E.2.2.2 t S pc = some L) : ∃ (x i : Int32) (k N : Nat) (f : List (Nat × Int32)) (st' : List Value), st = .int x :: .int i :: .ref k :: st' ∧ ax_raw h k = some (.inl (t, N, .inl f)) ∧ ax_inB i N = true ∧ (t = 1 → -128 ≤ x.toInt ∧ x.toInt ≤ 127) ∧ ab_in E L (pc + 1, lv, st', ax_hset h k (.inl (t, N, .inl ((i.toNatClampNeg, x) :: f))), n, cs, ss) := by
  obtain ⟨lv0, st0, Γ, C, rest⟩ := S
  have hg' := hg
  obtain ⟨g1, g2, g3, g4, g5, g6, g7, ⟨g8, g8', g8''⟩, g9⟩ := hg
  match st0, st, g2, hs with
  | [], _, _, hs => cases hs
  | [_], _, _, hs => cases hs
  | [_, _], _, _, hs => cases hs
  | v :: i :: o :: sta, [], g2, _ => exact g2.elim
  | v :: i :: o :: sta, [_], g2, _ => exact g2.2.elim
  | v :: i :: o :: sta, [_, _], g2, _ => exact g2.2.2.elim
  | v :: i :: o :: sta, a :: b :: w :: st', g2, hs =>
    simp only [ab_ast] at hs
    split at hs
    · rename_i p M pv hp hM hv
      obtain ⟨y, rfl, hy⟩ := ab_iv_ok g3 hv g2.1
      obtain ⟨x, rfl, hx⟩ := ab_iv_ok g3 hp g2.2.1
      obtain ⟨k, rfl, hk, hb⟩ := ab_mo_ok g8.1 g3 hM g2.2.2.1
      split at hs
      · rename_i N1 N2 hl
        obtain ⟨hc, hs2⟩ := ab_bif hs
        simp only [Bool.and_eq_true, Bool.or_eq_true, Nat.beq_eq, decide_eq_true_eq] at hc
        obtain ⟨c1, c2, c3⟩ := hc
        obtain ⟨d, P, r1, r2, r3⟩ := g8.2.1 k hk
        have hall := List.all_eq_true.mp c1 _ (ab_ks_in hb r2)
        rw [r2] at hall
        rcases P with ⟨t', M1, M2, σ, σs⟩ | ⟨ci, τs⟩
        case inr => cases hall
        simp only [Bool.and_eq_true, Nat.beq_eq, List.isEmpty_iff, Bool.not_eq_true', Bool.or_eq_false_iff] at hall
        obtain ⟨rfl, rfl, a3, ⟨a41, a42, a43, a44⟩, a5⟩ := hall
        rcases d with ⟨td, N, f | f⟩ | ⟨cj, fs⟩
        case inl.inr => exact absurd r3.2.1 (by omega)
        case inr => cases r3
        obtain ⟨rfl, b2, b3, b4, b5, b6⟩ := r3
        obtain ⟨l1, l2, l3⟩ := ab_lens_ok g8 hb hk r1 hl
        have hin := ab_inb_ok hg' g2.2.2.1 g2.2.1 hx r1 l1 l3 c2
        have hxN : x.toNatClampNeg = x.toInt.toNat := rfl
        obtain ⟨Γ', e1, e2⟩ := ab_lim_g hg' (i := i) g2.2.1 (lo := 0) (hi' := (N2 : Int) - 1) hin.1 (by omega)
        rw [e1] at hs2
        cases hs2
        have hrd := fun k' i' => ab_rd_ast (i0 := x.toNatClampNeg) (x := y) r1 k' i'
        rw [show ((x.toNatClampNeg : Nat) : Int) = x.toInt by omega] at hrd
        have hyσ := ab_is_ok g8.1 g3 a3 g2.1
        have hJ : ab_J (ax_hset h k (.inl (td, N, .inl ((x.toNatClampNeg, y) :: f)))) := by
          refine ab_J_st hrd hin.1 ?_ (fun hq => ?_) g8.2.2.1
          · simp only [ab_pt, a41, a42, a43, a44, Bool.false_and, Bool.or_self]
          · simp only [ab_pq, a41, Bool.false_and] at hq
            cases hq
        have hH : ab_HT (ax_hset h k (.inl (td, N, .inl ((x.toNatClampNeg, y) :: f)))) n := by
          refine ab_HT_set g8 r1 (fun P' hP' hcf => ?_) hJ
          rw [r2] at hP'
          cases hP'
          refine ⟨rfl, b2, b3, b4, b5, fun j hj => ?_⟩
          have := b6 j hj
          by_cases hjx : j = x.toNatClampNeg
          · subst hjx
            have e : ax_fi ((x.toNatClampNeg, y) :: f) x.toNatClampNeg = y := by simp [ax_fi, upd]
            rw [e]
            exact ⟨hyσ, hyσ⟩
          · have e : ax_fi ((x.toNatClampNeg, y) :: f) j = ax_fi f j := by simp [ax_fi, upd, hjx]
            rw [e]
            exact this
        have hmd : ab_md E.2.2.2 (ab_k k) x.toInt = true := by
          unfold ab_md
          obtain ⟨q, hq1, hq2⟩ := List.any_eq_true.mp a5
          refine List.any_eq_true.mpr ⟨q, hq1, ?_⟩
          simp only [Bool.and_eq_true, decide_eq_true_eq] at hq2
          simp only [hq2.1, hq2.2, decide_eq_true hin.1, Bool.true_and, decide_true, Bool.or_true, Bool.and_true]
        have hg2 := ab_wr_ok e2 g2.2.2.2 g2.2.2.1 g2.2.1 g2.1 hrd hH hmd
        refine ⟨y, x, k, N, f, st', rfl, r1, by simp only [ax_inB, decide_eq_true hin.1, decide_eq_true hin.2, Bool.and_self], fun h1 => ?_, ab_in1 hg2⟩
        rcases c3 with c3 | c3
        · omega
        · omega
      · cases hs
    · cases hs
/-- a value of a type fits a field -/
def ab_fitB (ty : FieldType) (τ : ab_Y) : Bool := match τ with
  | .inl (lo, hi, _) => decide (ty = .int) || (decide (ty = .boolean) && (decide (0 ≤ lo) && decide (hi ≤ 1)))
  | .inr (some _) => fits ty .null
  | .inr none => decide (ty = .long)
theorem ab_fitB_ok {ty : FieldType} {τ : ab_Y} {v : Value} (h : ab_fitB ty τ = true) (hv : ab_ok n v τ) : ax_fit ty v = true := by
  rcases τ with ⟨lo, hi, f⟩ | (_ | M)
  · obtain ⟨x, rfl, h1, h2, -⟩ := hv
    simp only [ab_fitB, Bool.or_eq_true, Bool.and_eq_true, decide_eq_true_eq] at h
    rcases h with rfl | ⟨rfl, h3, h4⟩
    · simp [ax_fit, narrow, fits]
    · have : x.toInt = 0 ∨ x.toInt = 1 := by omega
      have hx : x = 0 ∨ x = 1 := by
        rcases this with e | e
        · left; exact Int32.toInt_inj.mp e
        · right; exact Int32.toInt_inj.mp e
      rcases hx with rfl | rfl <;> rfl
  · obtain ⟨x, rfl⟩ := hv
    have : ty = .long := of_decide_eq_true h
    subst this
    rfl
  · obtain ⟨k, rfl, -⟩ := hv
    exact h
/-- what is written into what the bounds speak of -/
def ab_fc (S : ab_S) (v : ab_V) (j : Int) : Bool := match ab_fd S.2.2.2.2.1 (.inr (.inr (.inl 28))) (.inl j) with
  | some b => ab_leq S.2.2.1 S.2.2.2.1 3 v b 0
  | none => false
def ab_gd (S : ab_S) (v : ab_V) : Bool := ab_veq v (.inl 0) || (ab_fc S v 6 || (ab_fc S v 7 || match ab_fd S.2.2.2.2.1 (.inr (.inr (.inl 28))) (.inl 4) with
    | some w => (match ab_fd S.2.2.2.2.1 w (.inl (-1)) with
      | some b => ab_leq S.2.2.1 S.2.2.2.1 3 v b 0
      | none => false)
    | none => false))
theorem ab_ri6 (hH : ab_HT h n) : 0 ≤ ab_ri h 28 6 := by
  obtain ⟨fs, v, h1, h2, h3⟩ := ab_fck_ok (k := 28) (M := 2 ^ 30) (ci := 7) (j := 6) (τ := .inl (0, 2147483647, 0)) hH (by decide +kernel) (Nat.lt_of_lt_of_le (by decide) hH.1) (by decide +kernel)
  obtain ⟨x, rfl, h4, -⟩ := h3
  have : ab_rd h 28 6 = some (.int x) := by
    unfold ab_rd
    rw [h1]
    exact h2
  unfold ab_ri
  rw [this]
  exact h4
theorem ab_fc_ok (g3 : ab_ty n V S.2.2.1) (g4 : ab_co V S.2.2.2.1) (g5 : ab_ca V h S.2.2.2.2.1) {v : ab_V} {x : Int32} (hi : ab_cv V v = some (.int x)) {j : Int} (hj : ab_rng j = true) (hb : ab_fc S v j = true) : x.toInt ≤ ab_ri h 28 j := by
  unfold ab_fc at hb
  split at hb
  · rename_i b hf
    obtain ⟨w, h1, h2⟩ := ab_fd_ok g5 hf (k := 28) (x := Int32.ofInt j) rfl (by show (bif ab_rng j then _ else none) = _; rw [hj]; rfl)
    obtain ⟨y, rfl⟩ := ab_leq_int g3 hb h1
    have := ab_leq_ok g3 g4 hb hi h1
    rw [ab_rng_ok hj] at h2
    have h3 : ab_ri h 28 j = y.toInt := by unfold ab_ri; rw [h2]
    omega
  · cases hb
theorem ab_gd_ok (g3 : ab_ty n V S.2.2.1) (g4 : ab_co V S.2.2.2.1) (g5 : ab_ca V h S.2.2.2.2.1) (hH : ab_HT h n) {v : ab_V} {x : Int32} (hi : ab_cv V v = some (.int x)) (hb : ab_gd S v = true) : ∀ u : Nat, ab_rd h 28 4 = some (.ref u) → x.toInt ≤ ab_ri h 28 6 ∨ x.toInt ≤ ab_ri h 28 7 ∨ x.toInt ≤ ab_ri h u (-1) := by
  intro u hu
  unfold ab_gd at hb
  simp only [Bool.or_eq_true] at hb
  rcases hb with hb | hb | hb | hb
  · rw [ab_veq_ok hb] at hi
    cases hi
    have := ab_ri6 hH
    left
    exact this
  · exact Or.inl (ab_fc_ok g3 g4 g5 hi (by decide) hb)
  · exact Or.inr (Or.inl (ab_fc_ok g3 g4 g5 hi (by decide) hb))
  · split at hb
    · rename_i w hf
      obtain ⟨w', h1, h2⟩ := ab_fd_ok g5 hf (k := 28) (x := Int32.ofInt 4) rfl rfl
      rw [show (Int32.ofInt 4).toInt = 4 from rfl, hu] at h2
      cases h2
      split at hb
      · rename_i b hf2
        obtain ⟨w2, h3, h4⟩ := ab_fd_ok g5 hf2 h1 (x := Int32.ofInt (-1)) rfl
        obtain ⟨y, rfl⟩ := ab_leq_int g3 hb h3
        have := ab_leq_ok g3 g4 hb hi h3
        rw [show (Int32.ofInt (-1)).toInt = -1 from rfl] at h4
        have h5 : ab_ri h u (-1) = y.toInt := by unfold ab_ri; rw [h4]
        right; right
        omega
      · cases hb
    · cases hb
def ab_pok (md : List (Nat × Int)) (S : ab_S) (ci j : Nat) (v : ab_V) (M : Nat) : Bool := (ab_ks M).all fun κ => match ab_K[κ]? with
  | some (.inr (ci', τs)) => Nat.beq ci' ci && (match τs[j]? with
    | some σ => ab_is S.2.2.1 v σ && (ab_fitB (ax_ty ci j) σ && (!(ab_pt κ j) && ((!(ab_pq κ j) || ab_gd S v) && ab_md md κ j)))
    | none => false)
  | _ => false
def ab_putf (md : List (Nat × Int)) (pe : ax_PE) (S : ab_S) (pc : Nat) : ab_L := match S.2.1 with
  | v :: o :: st => match ab_mo S.2.2.1 o with
    | some M => bif ab_rng pe.2.2.1 && ab_pok md S pe.2.1 pe.2.2.1 v M then some [(pc + 3, ab_wr S st o (.inl pe.2.2.1) v)] else none
    | none => none
  | _ => none
theorem ab_putf_ok (hg : ab_g E S V lv st h n cs ss) (hs : ab_putf E.2.2.2 pe S pc = some L) : ∃ F, ax_s_putf pe pc lv st h n cs ss = some F ∧ ab_in E L F := by
  obtain ⟨lv0, st0, Γ, C, rest⟩ := S
  have hg' := hg
  obtain ⟨g1, g2, g3, g4, g5, g6, g7, ⟨g8, g8', g8''⟩, g9⟩ := hg
  match st0, st, g2, hs with
  | [], _, _, hs => cases hs
  | [_], _, _, hs => cases hs
  | v :: o :: sta, [], g2, _ => exact g2.elim
  | v :: o :: sta, [_], g2, _ => exact g2.2.elim
  | v :: o :: sta, w :: a :: st', g2, hs =>
    simp only [ab_putf] at hs
    split at hs
    · rename_i M hM
      obtain ⟨k, rfl, hk, hb⟩ := ab_mo_ok g8.1 g3 hM g2.2.1
      obtain ⟨hc, hs2⟩ := ab_bif hs
      simp only [Bool.and_eq_true] at hc
      obtain ⟨c0, c1⟩ := hc
      obtain ⟨d, P, r1, r2, r3⟩ := g8.2.1 k hk
      have hall := List.all_eq_true.mp c1 _ (ab_ks_in hb r2)
      rw [r2] at hall
      rcases P with ⟨t', M1, M2, σ, σs⟩ | ⟨ci, τs⟩
      case inl => cases hall
      simp only [Bool.and_eq_true, Nat.beq_eq] at hall
      obtain ⟨rfl, hall⟩ := hall
      rcases d with ⟨td, N, f | f⟩ | ⟨cj, fs⟩
      case inl.inl => cases r3
      case inl.inr => cases r3
      obtain ⟨rfl, b2, b3⟩ := r3
      cases hσ : τs[pe.2.2.1]? with
      | none => rw [hσ] at hall; cases hall
      | some σ =>
        rw [hσ] at hall
        simp only [Bool.and_eq_true, Bool.not_eq_true', Bool.or_eq_true] at hall
        obtain ⟨a1, a2, a3, a4, a5⟩ := hall
        have hj : pe.2.2.1 < fs.length := by rw [b2]; exact (List.getElem?_eq_some_iff.mp hσ).1
        have hw := ab_is_ok g8.1 g3 a1 g2.1
        have hfit := ab_fitB_ok a2 hw
        have hrd := fun k' i' => ab_rd_put (w := w) r1 hj k' i'
        have hJ : ab_J (ax_hset h k (.inr (pe.2.1, fs.set pe.2.2.1 w))) := by
          refine ab_J_st hrd (by omega) a3 (fun hq => ?_) g8.2.2.1
          rcases a4 with a4 | a4
          · rw [hq] at a4; cases a4
          · have hint : ∃ z : Int32, w = .int z := by
              have hkk : ab_k k = 30 := by
                simp only [ab_pq, Bool.and_eq_true, Nat.beq_eq] at hq
                exact hq.1
              have hj67 : pe.2.2.1 = 6 ∨ pe.2.2.1 = 7 := by
                simp only [ab_pq, Bool.and_eq_true, Bool.or_eq_true, decide_eq_true_eq] at hq
                omega
              rw [hkk] at r2
              have hK : ab_K[30]? = some ks_30 := rfl
              rw [hK] at r2
              have r2' : ks_30 = .inr (pe.2.1, τs) := Option.some.inj r2
              have hτ : τs = (match ks_30 with
                | .inr q => q.2
                | .inl _ => []) := by rw [r2']
              rw [hτ] at hσ
              rcases hj67 with e | e <;> rw [e] at hσ <;> (have hσ' := Option.some.inj hσ; rw [← hσ'] at hw; obtain ⟨z, e, -⟩ := hw; exact ⟨z, e⟩)
            obtain ⟨z, rfl⟩ := hint
            exact ⟨z, rfl, ab_gd_ok g3 g4 g5 g8 g2.1 a4⟩
        have hH : ab_HT (ax_hset h k (.inr (pe.2.1, fs.set pe.2.2.1 w))) n := by
          refine ab_HT_set g8 r1 (fun P' hP' hcf => ?_) hJ
          rw [r2] at hP'
          cases hP'
          refine ⟨rfl, by rw [List.length_set]; exact b2, fun j u hu => ?_⟩
          by_cases hjx : pe.2.2.1 = j
          · subst hjx
            rw [List.getElem?_set_self hj] at hu
            cases hu
            exact ⟨σ, hσ, hw⟩
          · rw [List.getElem?_set_ne hjx] at hu
            exact b3 j u hu
        have hmd : ab_md E.2.2.2 (ab_k k) (Int32.ofInt (pe.2.2.1 : Int)).toInt = true := by rw [ab_rng_ok c0]; exact a5
        have hg2 := ab_wr_ok (i := .inl (pe.2.2.1 : Int)) (x := Int32.ofInt (pe.2.2.1 : Int)) hg' g2.2.2 g2.2.1 (by show (bif ab_rng pe.2.2.1 then _ else none) = _; rw [c0]; rfl) g2.1 (by rw [ab_rng_ok c0]; exact hrd) hH hmd
        cases hs2
        refine ⟨_, ?_, ab_in1 hg2⟩
        have hblt : Nat.blt pe.2.2.1 fs.length = true := by simpa [Nat.blt_eq] using hj
        simp only [ax_s_putf, r1, beq_self_eq_true, hblt, hfit, Bool.and_self, cond_true]
    · cases hs
end STO
end
section
/-! ===== every step that is no call ===== -/
section STE
variable {E : ab_E} {S : ab_S} {V : List Value} {pc nL : Nat} {lv : List (Nat × Value)} {st : List Value} {h : ax_H} {n cs ss : Nat} {L : List (Nat × ab_S)} {iv : Nat → Int × Int} {pe : ax_PE}
/-- categories on a stack -/
def ab_sum (Γ : List ab_Y) : List ab_V → Nat
  | [] => 0
  | a :: st => ab_ct Γ a + ab_sum Γ st
theorem ab_sum_ok {Γ : List ab_Y} (hΓ : ab_ty n V Γ) : ∀ {sta : List ab_V} {st : List Value}, ab_stR V sta st → ax_sum st = ab_sum Γ sta
  | [], [], _ => rfl
  | a :: sta, v :: st, hs => by
    have ih := ab_sum_ok hΓ hs.2
    unfold ax_sum at ih ⊢
    rw [List.map_cons, List.sum_cons, ih, ab_ct_ok hΓ hs.1]
    rfl
  | [], _ :: _, hs => hs.elim
  | _ :: _, [], hs => hs.elim
/-- two longs to one -/
def ab_l2 (S : ab_S) (pc : Nat) : ab_L := match S.2.1 with
  | b :: a :: st => bif (match ab_kd S.2.2.1 a, ab_kd S.2.2.1 b with
      | some x, some y => Nat.beq x 2 && Nat.beq y 2
      | _, _ => false) then some [(pc, ab_long S st)] else none
  | _ => none
theorem ab_kd2 {Γ : List ab_Y} (hΓ : ab_ty n V Γ) {a : ab_V} {v : Value} (hv : ab_cv V a = some v) (h : ab_kd Γ a = some 2) : ∃ x : Int64, v = .long x := by
  rcases ab_kd_ok hΓ hv h with ⟨e, -⟩ | ⟨e, -⟩ | ⟨-, x, rfl⟩
  · cases e
  · cases e
  · exact ⟨x, rfl⟩
theorem ab_l2_ok (hg : ab_g E S V lv st h n cs ss) {op : Int64 → Int64 → Int64} (hs : ab_l2 S (pc + 1) = some L) : ∃ F, ax_s_l2 pc lv st h n cs ss op = some F ∧ ab_in E L F := by
  obtain ⟨lv0, st0, Γ, rest⟩ := S
  have hg' := hg
  obtain ⟨g1, g2, g3, g4, g5, g6, g7, g8, g9⟩ := hg
  match st0, st, g2, hs with
  | [], _, _, hs => cases hs
  | [_], _, _, hs => cases hs
  | b :: a :: sta, [], g2, _ => exact g2.elim
  | b :: a :: sta, [_], g2, _ => exact g2.2.elim
  | b :: a :: sta, v :: w :: st', g2, hs =>
    simp only [ab_l2] at hs
    obtain ⟨hc, hs2⟩ := ab_bif hs
    split at hc
    · rename_i x y hx hy
      simp only [Bool.and_eq_true, Nat.beq_eq] at hc
      obtain ⟨rfl, rfl⟩ := hc
      obtain ⟨x, rfl⟩ := ab_kd2 g3 g2.2.1 hx
      obtain ⟨y, rfl⟩ := ab_kd2 g3 g2.1 hy
      cases hs2
      exact ⟨_, rfl, ab_long_ok hg' g2.2.2 _⟩
    · cases hc
/-- a long and an int to a long -/
def ab_li (S : ab_S) (pc : Nat) : ab_L := match S.2.1 with
  | b :: a :: st => bif (match ab_kd S.2.2.1 a, ab_iv S.2.2.1 b with
      | some x, some _ => Nat.beq x 2
      | _, _ => false) then some [(pc, ab_long S st)] else none
  | _ => none
theorem ab_li_ok (hg : ab_g E S V lv st h n cs ss) {op : Int64 → Int32 → Int64} (hs : ab_li S (pc + 1) = some L) : ∃ F, ax_s_li pc lv st h n cs ss op = some F ∧ ab_in E L F := by
  obtain ⟨lv0, st0, Γ, rest⟩ := S
  have hg' := hg
  obtain ⟨g1, g2, g3, g4, g5, g6, g7, g8, g9⟩ := hg
  match st0, st, g2, hs with
  | [], _, _, hs => cases hs
  | [_], _, _, hs => cases hs
  | b :: a :: sta, [], g2, _ => exact g2.elim
  | b :: a :: sta, [_], g2, _ => exact g2.2.elim
  | b :: a :: sta, v :: w :: st', g2, hs =>
    simp only [ab_li] at hs
    obtain ⟨hc, hs2⟩ := ab_bif hs
    split at hc
    · rename_i x y hx hy
      simp only [Nat.beq_eq] at hc
      subst hc
      obtain ⟨x, rfl⟩ := ab_kd2 g3 g2.2.1 hx
      obtain ⟨y, rfl, -⟩ := ab_iv_ok g3 hy g2.1
      cases hs2
      exact ⟨_, rfl, ab_long_ok hg' g2.2.2 _⟩
    · cases hc
/-- one int to an int -/
def ab_i1 (f : ab_V → Int × Int → ab_R) (S : ab_S) (pc : Nat) : ab_L := match S.2.1 with
  | a :: st => match ab_iv S.2.2.1 a with
    | some p => some [(pc, ab_put S st (f a p))]
    | none => none
  | _ => none
theorem ab_i1_ok (hg : ab_g E S V lv st h n cs ss) {f : ab_V → Int × Int → ab_R} {op : Int32 → Value} (hf : ∀ (a : ab_V) (p : Int × Int) (x : Int32), ab_cv V a = some (.int x) → p.1 ≤ x.toInt ∧ x.toInt ≤ p.2 → ab_den n V (f a p) (op x)) (hs : ab_i1 f S pc = some L) : ∃ (x : Int32) (st' : List Value), st = .int x :: st' ∧ ab_in E L (pc, lv, op x :: st', h, n, cs, ss) := by
  obtain ⟨lv0, st0, Γ, rest⟩ := S
  have hg' := hg
  obtain ⟨g1, g2, g3, g4, g5, g6, g7, g8, g9⟩ := hg
  match st0, st, g2, hs with
  | [], _, _, hs => cases hs
  | a :: sta, [], g2, _ => exact g2.elim
  | a :: sta, v :: st', g2, hs =>
    simp only [ab_i1] at hs
    split at hs
    · rename_i p hp
      cases hs
      obtain ⟨x, rfl, hx⟩ := ab_iv_ok g3 hp g2.1
      obtain ⟨V', hg2⟩ := ab_put_ok hg' g2.2 (hf a p x g2.1 hx)
      exact ⟨x, st', rfl, ab_in1 hg2⟩
    · cases hs
def ab_l1 (S : ab_S) (pc : Nat) : ab_L := match S.2.1 with
  | a :: st => match ab_kd S.2.2.1 a with
    | some d => bif Nat.beq d 2 then some [(pc, ab_put S st (.inr (ab_top, [])))] else none
    | none => none
  | _ => none
theorem ab_l1_ok (hg : ab_g E S V lv st h n cs ss) (hs : ab_l1 S pc = some L) : ∃ (x : Int64) (st' : List Value), st = .long x :: st' ∧ ab_in E L (pc, lv, .int x.toInt32 :: st', h, n, cs, ss) := by
  obtain ⟨lv0, st0, Γ, rest⟩ := S
  have hg' := hg
  obtain ⟨g1, g2, g3, g4, g5, g6, g7, g8, g9⟩ := hg
  match st0, st, g2, hs with
  | [], _, _, hs => cases hs
  | a :: sta, [], g2, _ => exact g2.elim
  | a :: sta, v :: st', g2, hs =>
    simp only [ab_l1] at hs
    split at hs
    · rename_i d hd
      obtain ⟨hc, hs2⟩ := ab_bif hs
      cases hs2
      have : d = 2 := by simpa [Nat.beq_eq] using hc
      subst this
      obtain ⟨x, rfl⟩ := ab_kd2 g3 g2.1 hd
      obtain ⟨V', hg2⟩ := ab_put_ok hg' g2.2 (r := .inr (ab_top, [])) (w := .int x.toInt32) ⟨ab_top_ok _ _, ab_no⟩
      exact ⟨x, st', rfl, ab_in1 hg2⟩
    · cases hs
def ab_iinc (nL : Nat) (S : ab_S) (pc k : Nat) (c : Int) : ab_L := match ab_lk S.1 k with
  | some a => match ab_iv S.2.2.1 a with
    | some p => bif Nat.blt k nL && ab_rng c then (match ab_put S S.2.1 (ab_add S.2.2.1.length a (.inl c) p (c, c)) with
        | (lv, v :: st, r) => some [(pc, (ab_p1 r.1 lv k v, st, r))]
        | _ => none) else none
    | none => none
  | none => none
theorem ab_iinc_ok (hg : ab_g E S V lv st h n cs ss) {k : Nat} {c : Int} (hs : ab_iinc nL S pc k c = some L) : ∃ v : Int32, ax_look lv k = some (.int v) ∧ Nat.blt k nL = true ∧ ab_in E L (pc, ax_put1 lv k (.int (v + Int32.ofInt c)), st, h, n, cs, ss) := by
  have hg' := hg
  obtain ⟨g1, g2, g3, g4, g5, g6, g7, g8, g9⟩ := hg
  unfold ab_iinc at hs
  split at hs
  · rename_i a ha
    obtain ⟨v, hv1, hv2⟩ := ab_lk_ok g1 ha
    split at hs
    · rename_i p hp
      obtain ⟨x, rfl, hx⟩ := ab_iv_ok g3 hp hv2
      obtain ⟨hc, hs2⟩ := ab_bif hs
      simp only [Bool.and_eq_true] at hc
      have hcc : ab_cv V (.inl c) = some (.int (Int32.ofInt c)) := by show (bif ab_rng c then _ else none) = _; rw [hc.2]; rfl
      have hd : ab_den n V (ab_add S.2.2.1.length a (.inl c) p (c, c)) (.int (x + Int32.ofInt c)) := by
        rw [← g3.1]
        exact ab_add_ok hv2 hcc hx ⟨by rw [ab_rng_ok hc.2]; exact Int.le_refl _, by rw [ab_rng_ok hc.2]; exact Int.le_refl _⟩
      obtain ⟨V', hg2⟩ := ab_put_ok hg' g2 hd
      generalize ab_put S S.2.1 (ab_add S.2.2.1.length a (.inl c) p (c, c)) = S' at hg2 hs2
      obtain ⟨lv', st', r⟩ := S'
      cases st' with
      | nil => cases hs2
      | cons w st' =>
        cases hs2
        obtain ⟨k1, k2, k3, k4, k5, k6, k7, k8, k9⟩ := hg2
        exact ⟨x, hv1, hc.1, ab_in1 (V := V') ⟨ab_p1_ok k3 k1 k2.1, k2.2, k3, k4, k5, k6, k7, k8, k9⟩⟩
    · cases hs
  · cases hs
/-- both ways of a value that decides -/
def ab_oc (S : ab_S) (st : List ab_V) (c : ClassFile.Cond) (a b : ab_V) (p q : Int × Int) (tg : Nat) : List (Nat × ab_S) := match ab_as c S.2.2.1 S.2.2.2.1 a b p q with
  | some r => [(tg, (S.1, st, r.1, r.2, S.2.2.2.2))]
  | none => []
theorem ab_oc_ok (hg : ab_g E S V lv st h n cs ss) {st1 : List Value} {sta : List ab_V} (hst : ab_stR V sta st1) {c : ClassFile.Cond} {a b : ab_V} {x y : Int32} (ha : ab_cv V a = some (.int x)) (hb : ab_cv V b = some (.int y)) {p q : Int × Int} (hp : p.1 ≤ x.toInt ∧ x.toInt ≤ p.2) (hq : q.1 ≤ y.toInt ∧ y.toInt ≤ q.2) (hc : ax_holds c x y) (tg : Nat) : ab_in E (ab_oc S sta c a b p q tg) (tg, lv, st1, h, n, cs, ss) := by
  obtain ⟨g1, g2, g3, g4, g5, g6, g7, g8, g9⟩ := hg
  obtain ⟨r, hr, t1, t2⟩ := ab_as_ok g3 g4 ha hb hp hq hc
  unfold ab_oc
  rw [hr]
  exact ab_in1 (V := V) ⟨g1, hst, t1, t2, g5, g6, g7, g8, g9⟩
theorem ab_in_l {L M : List (Nat × ab_S)} {F : ax_F} (hh : ab_in E L F) : ab_in E (L ++ M) F := by
  obtain ⟨q, hq, r⟩ := hh
  exact ⟨q, List.mem_append_left _ hq, r⟩
theorem ab_in_r {L M : List (Nat × ab_S)} {F : ax_F} (hh : ab_in E M F) : ab_in E (L ++ M) F := by
  obtain ⟨q, hq, r⟩ := hh
  exact ⟨q, List.mem_append_right _ hq, r⟩
def ab_tcs (S : ab_S) (st : List ab_V) (a : ab_V) (p : Int × Int) (pc : Nat) : Int → List Int → ab_L
  | _, [] => some []
  | c, off :: r => match ax_to pc off, ab_tcs S st a p pc (c + 1) r with
    | some t, some L => bif ab_rng c then some (ab_oc S st .eq a (.inl c) p (c, c) t ++ L) else none
    | _, _ => none
theorem ab_cvc {c : Int} (hc : ab_rng c = true) : ab_cv V (.inl c) = some (.int (Int32.ofInt c)) := by show (bif ab_rng c then _ else none) = _; rw [hc]; rfl
theorem ab_tcs_ok (hg : ab_g E S V lv st h n cs ss) {st1 : List Value} {sta : List ab_V} (hst : ab_stR V sta st1) {a : ab_V} {x : Int32} (ha : ab_cv V a = some (.int x)) {p : Int × Int} (hp : p.1 ≤ x.toInt ∧ x.toInt ≤ p.2) : ∀ (os : List Int) (c : Int) (L : List (Nat × ab_S)), ab_tcs S sta a p pc c os = some L → ∀ off : Int, c ≤ x.toInt → os[(x.toInt - c).toNat]? = some off → ∃ t, ax_to pc off = some t ∧ ab_in E L (t, lv, st1, h, n, cs, ss) := by
  intro os
  induction os with
  | nil => intro c L _ off _ ho; simp at ho
  | cons o os ih =>
    intro c L hs off hc ho
    rw [ab_tcs] at hs
    split at hs
    · rename_i t L' ht hL'
      obtain ⟨hr, hs2⟩ := ab_bif hs
      cases hs2
      by_cases e : x.toInt = c
      · rw [e, Int.sub_self] at ho
        have : o = off := Option.some.inj ho
        subst this
        refine ⟨t, ht, ab_in_l (ab_oc_ok hg hst ha (ab_cvc hr) hp ⟨by rw [ab_rng_ok hr]; exact Int.le_refl _, by rw [ab_rng_ok hr]; exact Int.le_refl _⟩ ?_ t)⟩
        show x = Int32.ofInt c
        exact Int32.toInt_inj.mp (by rw [ab_rng_ok hr]; exact e)
      · have e2 : (x.toInt - c).toNat = (x.toInt - (c + 1)).toNat + 1 := by omega
        rw [e2, List.getElem?_cons_succ] at ho
        obtain ⟨t', h1, h2⟩ := ih (c + 1) L' hL' off (by omega) ho
        exact ⟨t', h1, ab_in_r h2⟩
    · cases hs
def ab_tsw (S : ab_S) (pc : Nat) (d lo hi : Int) (os : List Int) : ab_L := match S.2.1 with
  | a :: st => match ab_iv S.2.2.1 a with
    | some p => match ax_to pc d, ab_tcs S st a p pc lo os with
      | some t, some L => bif ab_rng lo && (ab_rng hi && decide (hi - lo < os.length)) then some (ab_oc S st .lt a (.inl lo) p (lo, lo) t ++ (ab_oc S st .gt a (.inl hi) p (hi, hi) t ++ L)) else none
      | _, _ => none
    | none => none
  | _ => none
theorem ab_tsw_ok (hg : ab_g E S V lv st h n cs ss) {d lo hi : Int} {offs : Array Int} (hs : ab_tsw S pc d lo hi offs.toList = some L) : ∃ F, ax_s_table iv pc lv st h n cs ss d lo hi offs = some F ∧ ab_in E L F := by
  obtain ⟨lv0, st0, Γ, rest⟩ := S
  have hg' := hg
  obtain ⟨g1, g2, g3, g4, g5, g6, g7, g8, g9⟩ := hg
  match st0, st, g2, hs with
  | [], _, _, hs => cases hs
  | a :: sta, [], g2, _ => exact g2.elim
  | a :: sta, v :: st', g2, hs =>
    simp only [ab_tsw] at hs
    split at hs
    · rename_i p hp
      obtain ⟨x, rfl, hx⟩ := ab_iv_ok g3 hp g2.1
      split at hs
      · rename_i t L' ht hL'
        obtain ⟨hc, hs2⟩ := ab_bif hs
        cases hs2
        simp only [Bool.and_eq_true, decide_eq_true_eq] at hc
        obtain ⟨c1, c2, c3⟩ := hc
        have e1 := ab_rng_ok c1
        have e2 := ab_rng_ok c2
        simp only [ax_s_table]
        by_cases h1 : x.toInt < lo
        · rw [decide_eq_true h1]
          simp only [Bool.true_or, cond_true, ht, Option.map_some]
          refine ⟨_, rfl, ab_in_l (ab_oc_ok hg' g2.2 g2.1 (ab_cvc c1) hx ⟨by rw [e1]; exact Int.le_refl _, by rw [e1]; exact Int.le_refl _⟩ ?_ t)⟩
          exact Int32.lt_iff_toInt_lt.mpr (by rw [e1]; exact h1)
        · by_cases h2 : hi < x.toInt
          · rw [decide_eq_true h2]
            simp only [Bool.or_true, cond_true, ht, Option.map_some]
            refine ⟨_, rfl, ab_in_r (ab_in_l (ab_oc_ok hg' g2.2 g2.1 (ab_cvc c2) hx ⟨by rw [e2]; exact Int.le_refl _, by rw [e2]; exact Int.le_refl _⟩ ?_ t))⟩
            exact Int32.lt_iff_toInt_lt.mpr (by rw [e2]; exact h2)
          · rw [decide_eq_false h1, decide_eq_false h2]
            simp only [Bool.or_self, cond_false]
            have hlt : (x.toInt - lo).toNat < offs.toList.length := by omega
            have ho : offs.toList[(x.toInt - lo).toNat]? = some offs.toList[(x.toInt - lo).toNat] := List.getElem?_eq_getElem hlt
            obtain ⟨t', k1, k2⟩ := ab_tcs_ok hg' g2.2 g2.1 hx offs.toList lo L' hL' _ (by omega) ho
            rw [← Array.getElem?_toList, ho]
            simp only [k1, Option.map_some]
            exact ⟨_, rfl, ab_in_r (ab_in_r k2)⟩
      · cases hs
    · cases hs
def ab_lcs (S : ab_S) (st : List ab_V) (a : ab_V) (p : Int × Int) (pc : Nat) (t : Nat) : List (Int × Int) → ab_L
  | [] => some [(t, (S.1, st, S.2.2))]
  | e :: r => match ax_to pc e.2, ab_lcs S st a p pc t r with
    | some t', some L => bif ab_rng e.1 then some (ab_oc S st .eq a (.inl e.1) p (e.1, e.1) t' ++ L) else none
    | _, _ => none
theorem ab_lcs_ok (hg : ab_g E S V lv st h n cs ss) {st1 : List Value} {sta : List ab_V} (hst : ab_stR V sta st1) {a : ab_V} {x : Int32} (ha : ab_cv V a = some (.int x)) {p : Int × Int} (hp : p.1 ≤ x.toInt ∧ x.toInt ≤ p.2) {d : Int} {t : Nat} (ht : ax_to pc d = some t) : ∀ (ps : List (Int × Int)) (L : List (Nat × ab_S)), ab_lcs S sta a p pc t ps = some L → ∃ t', ax_to pc (Op.lookupswitch.offset ps d x.toInt) = some t' ∧ ab_in E L (t', lv, st1, h, n, cs, ss) := by
  intro ps
  induction ps with
  | nil =>
    intro L hs
    cases hs
    obtain ⟨g1, g2, g3, g4, g5, g6, g7, g8, g9⟩ := hg
    exact ⟨t, ht, ab_in1 (V := V) ⟨g1, hst, g3, g4, g5, g6, g7, g8, g9⟩⟩
  | cons e ps ih =>
    intro L hs
    rw [ab_lcs] at hs
    split at hs
    · rename_i t' L' ht' hL'
      obtain ⟨hr, hs2⟩ := ab_bif hs
      cases hs2
      rw [Op.lookupswitch.offset_cons]
      by_cases hx : x.toInt = e.1
      · rw [if_pos (by simp [hx])]
        refine ⟨t', ht', ab_in_l (ab_oc_ok hg hst ha (ab_cvc hr) hp ⟨by rw [ab_rng_ok hr]; exact Int.le_refl _, by rw [ab_rng_ok hr]; exact Int.le_refl _⟩ ?_ t')⟩
        exact Int32.toInt_inj.mp (by rw [ab_rng_ok hr]; exact hx)
      · rw [if_neg (by first | exact fun q => hx q.symm | exact hx | (intro q; simp at q; omega))]
        obtain ⟨t2, k1, k2⟩ := ih L' hL'
        exact ⟨t2, k1, ab_in_r k2⟩
    · cases hs
def ab_lsw (S : ab_S) (pc : Nat) (d : Int) (ps : List (Int × Int)) : ab_L := match S.2.1 with
  | a :: st => match ab_iv S.2.2.1 a, ax_to pc d with
    | some p, some t => bif (ps.zip (ps.drop 1)).all (fun (a, next) => a.1 < next.1) then ab_lcs S st a p pc t ps else none
    | _, _ => none
  | _ => none
theorem ab_lsw_ok (hg : ab_g E S V lv st h n cs ss) {d : Int} {ps : Array (Int × Int)} (hs : ab_lsw S pc d ps.toList = some L) : ∃ F, ax_s_lookup iv pc lv st h n cs ss d ps = some F ∧ ab_in E L F := by
  obtain ⟨lv0, st0, Γ, rest⟩ := S
  have hg' := hg
  obtain ⟨g1, g2, g3, g4, g5, g6, g7, g8, g9⟩ := hg
  match st0, st, g2, hs with
  | [], _, _, hs => cases hs
  | a :: sta, [], g2, _ => exact g2.elim
  | a :: sta, v :: st', g2, hs =>
    simp only [ab_lsw] at hs
    split at hs
    · rename_i p t hp ht
      obtain ⟨x, rfl, hx⟩ := ab_iv_ok g3 hp g2.1
      obtain ⟨hc, hs2⟩ := ab_bif hs
      obtain ⟨t', k1, k2⟩ := ab_lcs_ok hg' g2.2 g2.1 hx ht _ _ hs2
      unfold ax_s_lookup
      rw [hc]
      simp only [cond_true, k1, Option.map_some]
      exact ⟨_, rfl, k2⟩
    · cases hs
def ab_alen (S : ab_S) (pc : Nat) : ab_L := match S.2.1 with
  | o :: st => match ab_mo S.2.2.1 o with
    | some M => match ab_lens M with
      | some (N1, N2) => bif Nat.blt (ab_t0 M) 2 && ab_ack M (ab_t0 M) none ab_top then some [(pc, ab_load S st o (.inl (-1)) (.inl (N1, N2, 0)))] else none
      | none => none
    | none => none
  | _ => none
theorem ab_alen_ok (hg : ab_g E S V lv st h n cs ss) (hs : ab_alen S (pc + 1) = some L) : ∃ F, ax_s_alen pc lv st h n cs ss = some F ∧ ab_in E L F := by
  obtain ⟨lv0, st0, Γ, rest⟩ := S
  have hg' := hg
  obtain ⟨g1, g2, g3, g4, g5, g6, g7, ⟨g8, g8', g8''⟩, g9⟩ := hg
  match st0, st, g2, hs with
  | [], _, _, hs => cases hs
  | a :: sta, [], g2, _ => exact g2.elim
  | a :: sta, v :: st', g2, hs =>
    simp only [ab_alen] at hs
    split at hs
    · rename_i M hM
      obtain ⟨k, rfl, hk, hb⟩ := ab_mo_ok g8.1 g3 hM g2.1
      split at hs
      · rename_i N1 N2 hl
        generalize ab_t0 M = t at hs
        obtain ⟨hc, hs2⟩ := ab_bif hs
        cases hs2
        simp only [Bool.and_eq_true] at hc
        obtain ⟨N, f, r1, r2, r3⟩ := ab_ack_ok g8 hb hk (by simpa [Nat.blt_eq] using hc.1) hc.2
        obtain ⟨l1, l2, l3⟩ := ab_lens_ok g8 hb hk r1 hl
        have hrd : ab_rd h k (Int32.ofInt (-1)).toInt = some (.int (Int32.ofNat N)) := ab_rd_len r1
        obtain ⟨V', -, hg2⟩ := ab_load_ok (i := .inl (-1)) (x := Int32.ofInt (-1)) (τ := .inl ((N1 : Int), (N2 : Int), 0)) hg' g2.2 g2.1 rfl hrd ⟨_, rfl, by rw [ab_ofN l3]; omega, by rw [ab_ofN l3]; omega, trivial⟩
        refine ⟨_, ?_, ab_in1 hg2⟩
        simp only [ax_s_alen, r1, hc.1, cond_true]
      · cases hs
    · cases hs
/-- the less of two -/
def ab_omin : ab_O := fun _ _ t a b p q => some (ab_mk (min p.1 q.1) (min p.2 q.2) 0 (ab_d1 t a 0 ++ ab_d1 t b 0))
theorem ab_omin_ok : ab_Oo ab_omin (fun x y => if y < x then y else x) := fun n V Γ C a b p q x y r hΓ hC ha hb hp hq h => by
  cases h
  show ab_den n V _ (.int (if y < x then y else x))
  refine ab_mk_ok fun r1 r2 => ?_
  have hz : (if y < x then y else x).toInt = min x.toInt y.toInt := by
    by_cases e : y < x
    · rw [if_pos e]
      have := Int32.lt_iff_toInt_lt.mp e
      omega
    · rw [if_neg e]
      have := Int32.le_iff_toInt_le.mp (Int32.not_lt.mp e)
      omega
  exact ⟨by omega, by omega, trivial, ab_con (ab_d1_ok ha (by omega)) (ab_d1_ok hb (by omega))⟩
end STE
end
section
/-! ===== sums that are remembered; the step ===== -/
section STF
variable {E : ab_E} {S : ab_S} {V : List Value} {pc nL : Nat} {lv : List (Nat × Value)} {st : List Value} {h : ax_H} {n cs ss : Nat} {L : List (Nat × ab_S)} {iv : Nat → Int × Int} {pe : ax_PE}
/-- what a sum's difference from other sums of its first part is -/
def ab_sC (Γ : List ab_Y) (C : List (Nat × Nat × Int)) (F : List (ab_V × ab_V × ab_V)) (a b v : ab_V) : List (Nat × Nat × Int) := F.flatMap fun e => bif ab_veq e.1 a then (match ab_ub Γ C 2 b e.2.1 with
    | some d => ab_dd v e.2.2 d
    | none => []) ++ (match ab_ub Γ C 2 e.2.1 b with
    | some d => ab_dd e.2.2 v d
    | none => []) else []
theorem ab_sC_ok {Γ : List ab_Y} {C : List (Nat × Nat × Int)} {F : List (ab_V × ab_V × ab_V)} (hΓ : ab_ty n V Γ) (hC : ab_co V C) (hF : ab_ca V h F) {a b v : ab_V} {x y z : Int32} (ha : ab_cv V a = some (.int x)) (hb : ab_cv V b = some (.int y)) (hv : ab_cv V v = some (.int z)) (hz : z.toInt = x.toInt + y.toInt) : ab_co V (ab_sC Γ C F a b v) := by
  intro q hq
  obtain ⟨e, he, hq⟩ := List.mem_flatMap.mp hq
  cases ev : ab_veq e.1 a with
  | false => rw [ev] at hq; cases hq
  | true =>
    rw [ev] at hq
    have hin : (a, e.2.1, e.2.2) ∈ F := by rw [← ab_veq_ok ev]; exact he
    obtain ⟨y', z', h1, h2, h3⟩ := ab_fd_sum hF hin ha
    rcases List.mem_append.mp hq with hq | hq
    · split at hq
      · rename_i d hd
        have := ab_ub_ok hΓ hC 2 _ _ d hd y y' hb h1
        exact ab_dd_ok hv h2 (by omega) q hq
      · cases hq
    · split at hq
      · rename_i d hd
        have := ab_ub_ok hΓ hC 2 _ _ d hd y' y h1 hb
        exact ab_dd_ok h2 hv (by omega) q hq
      · cases hq
def ab_isS : ab_V → Bool
  | .inr (.inl _) => true
  | _ => false
/-- a sum -/
def ab_addS (sm : Bool) (S : ab_S) (pc : Nat) : ab_L := match S.2.1 with
  | b :: a :: st => match ab_iv S.2.2.1 a, ab_iv S.2.2.1 b with
    | some p, some q => bif sm && (ab_isS a && (ab_isS b && (ab_rng (p.1 + q.1) && ab_rng (p.2 + q.2)))) then (match ab_fd S.2.2.2.2.1 a b with
        | some v => some [(pc, (S.1, v :: st, S.2.2))]
        | none => match ab_put S st (ab_add S.2.2.1.length a b p q) with
          | (lv, v :: st', Γ, C, F, r) => some [(pc, (lv, v :: st', Γ, ab_sC Γ C F a b v ++ C, (a, b, v) :: F, r))]
          | _ => none) else ab_i2 ab_oadd S pc
    | _, _ => none
  | _ => none
theorem ab_addS_ok (hg : ab_g E S V lv st h n cs ss) {sm : Bool} (hs : ab_addS sm S (pc + 1) = some L) : ∃ F, ax_s_i2 pc lv st h n cs ss (fun x y => x + y) = some F ∧ ab_in E L F := by
  obtain ⟨lv0, st0, Γ, C, rest⟩ := S
  have hg' := hg
  obtain ⟨g1, g2, g3, g4, g5, g6, g7, g8, g9⟩ := hg
  match st0, st, g2, hs, hg' with
  | [], _, _, hs, _ => cases hs
  | [_], _, _, hs, _ => cases hs
  | b :: a :: sta, [], g2, _, _ => exact g2.elim
  | b :: a :: sta, [_], g2, _, _ => exact g2.2.elim
  | b :: a :: sta, v :: w :: st', g2, hs, hg' =>
    simp only [ab_addS] at hs
    split at hs
    · rename_i p q hp hq
      cases e : (sm && (ab_isS a && (ab_isS b && (ab_rng (p.1 + q.1) && ab_rng (p.2 + q.2))))) with
      | false => rw [e] at hs; exact ab_i2_ok hg' ab_oadd_ok hs
      | true =>
        rw [e] at hs
        simp only [cond_true] at hs
        simp only [Bool.and_eq_true] at e
        obtain ⟨-, -, -, r1, r2⟩ := e
        rw [ab_rng_iff] at r1 r2
        obtain ⟨y, rfl, hy⟩ := ab_iv_ok g3 hq g2.1
        obtain ⟨x, rfl, hx⟩ := ab_iv_ok g3 hp g2.2.1
        have hz : (x + y).toInt = x.toInt + y.toInt := by rw [Int32.toInt_add, ab_bm (by omega) (by omega)]
        refine ⟨_, rfl, ?_⟩
        split at hs
        · rename_i v hv
          cases hs
          obtain ⟨y', z', k1, k2, k3⟩ := ab_fd_sum g5 (ab_fd_in hv) g2.2.1
          rw [g2.1] at k1
          cases k1
          have : z' = x + y := Int32.toInt_inj.mp (by omega)
          subst this
          exact ab_in1 (V := V) ⟨g1, ⟨k2, g2.2.2⟩, g3, g4, g5, g6, g7, g8, g9⟩
        · obtain ⟨V', hxt, hg2⟩ := ab_put_ext hg' g2.2.2 (r := ab_add Γ.length a b p q) (w := .int (x + y)) (by rw [← g3.1]; exact ab_add_ok g2.2.1 g2.1 hx hy)
          generalize ab_put (lv0, b :: a :: sta, Γ, C, rest) sta (ab_add Γ.length a b p q) = S' at hg2 hs
          obtain ⟨lv', st'', Γ', C', F', r'⟩ := S'
          cases st'' with
          | nil => exact hg2.2.1.elim
          | cons v st'' =>
            cases hs
            obtain ⟨k1, k2, k3, k4, k5, k6, k7, k8, k9⟩ := hg2
            have ha := ab_ext_cv hxt g2.2.1
            have hb := ab_ext_cv hxt g2.1
            refine ab_in1 (V := V') ⟨k1, k2, k3, ab_con (ab_sC_ok k3 k4 k5 ha hb k2.1 hz) k4, fun q hq => ?_, k6, k7, k8, k9⟩
            rcases List.mem_cons.mp hq with rfl | hq
            · exact Or.inr ⟨x, y, x + y, ha, hb, k2.1, hz⟩
            · exact k5 q hq
    · cases hs
/-- a difference -/
def ab_subS (sm : Bool) (S : ab_S) (pc : Nat) : ab_L := match S.2.1 with
  | b :: a :: st => match ab_iv S.2.2.1 a, ab_iv S.2.2.1 b with
    | some p, some q => bif sm && (ab_isS a && (ab_isS b && (ab_rng (p.1 - q.2) && ab_rng (p.2 - q.1)))) then (match S.2.2.2.2.1.find? (fun e => ab_veq e.1 b && ab_veq e.2.2 a) with
        | some e => some [(pc, (S.1, e.2.1 :: st, S.2.2))]
        | none => match ab_put S st (ab_sub S.2.2.1 S.2.2.2.1 S.2.2.1.length a b p q) with
          | (lv, v :: st', Γ, C, F, r) => some [(pc, (lv, v :: st', Γ, C, (b, v, a) :: F, r))]
          | _ => none) else ab_i2 ab_osub S pc
    | _, _ => none
  | _ => none
theorem ab_subS_ok (hg : ab_g E S V lv st h n cs ss) {sm : Bool} (hs : ab_subS sm S (pc + 1) = some L) : ∃ F, ax_s_i2 pc lv st h n cs ss (fun x y => x - y) = some F ∧ ab_in E L F := by
  obtain ⟨lv0, st0, Γ, C, rest⟩ := S
  have hg' := hg
  obtain ⟨g1, g2, g3, g4, g5, g6, g7, g8, g9⟩ := hg
  match st0, st, g2, hs, hg' with
  | [], _, _, hs, _ => cases hs
  | [_], _, _, hs, _ => cases hs
  | b :: a :: sta, [], g2, _, _ => exact g2.elim
  | b :: a :: sta, [_], g2, _, _ => exact g2.2.elim
  | b :: a :: sta, v :: w :: st', g2, hs, hg' =>
    simp only [ab_subS] at hs
    split at hs
    · rename_i p q hp hq
      cases e : (sm && (ab_isS a && (ab_isS b && (ab_rng (p.1 - q.2) && ab_rng (p.2 - q.1))))) with
      | false => rw [e] at hs; exact ab_i2_ok hg' ab_osub_ok hs
      | true =>
        rw [e] at hs
        simp only [cond_true] at hs
        simp only [Bool.and_eq_true] at e
        obtain ⟨-, -, -, r1, r2⟩ := e
        rw [ab_rng_iff] at r1 r2
        obtain ⟨y, rfl, hy⟩ := ab_iv_ok g3 hq g2.1
        obtain ⟨x, rfl, hx⟩ := ab_iv_ok g3 hp g2.2.1
        have hz : (x - y).toInt = x.toInt - y.toInt := by rw [Int32.toInt_sub, ab_bm (by omega) (by omega)]
        refine ⟨_, rfl, ?_⟩
        split at hs
        · rename_i e he
          cases hs
          have hp := List.find?_some he
          simp only [Bool.and_eq_true] at hp
          have hin : (b, e.2.1, a) ∈ rest.1 := by rw [← ab_veq_ok hp.1, ← ab_veq_ok hp.2]; exact List.mem_of_find?_eq_some he
          obtain ⟨y', z', k1, k2, k3⟩ := ab_fd_sum g5 hin g2.1
          rw [g2.2.1] at k2
          cases k2
          have : y' = x - y := Int32.toInt_inj.mp (by omega)
          subst this
          exact ab_in1 (V := V) ⟨g1, ⟨k1, g2.2.2⟩, g3, g4, g5, g6, g7, g8, g9⟩
        · obtain ⟨V', hxt, hg2⟩ := ab_put_ext hg' g2.2.2 (r := ab_sub Γ C Γ.length a b p q) (w := .int (x - y)) (by rw [← g3.1]; exact ab_sub_ok g3 g4 g2.2.1 g2.1 hx hy)
          generalize ab_put (lv0, b :: a :: sta, Γ, C, rest) sta (ab_sub Γ C Γ.length a b p q) = S' at hg2 hs
          obtain ⟨lv', st'', Γ', C', F', r'⟩ := S'
          cases st'' with
          | nil => exact hg2.2.1.elim
          | cons v st'' =>
            cases hs
            obtain ⟨k1, k2, k3, k4, k5, k6, k7, k8, k9⟩ := hg2
            have ha := ab_ext_cv hxt g2.2.1
            have hb := ab_ext_cv hxt g2.1
            refine ab_in1 (V := V') ⟨k1, k2, k3, k4, fun q hq => ?_, k6, k7, k8, k9⟩
            rcases List.mem_cons.mp hq with rfl | hq
            · exact Or.inr ⟨y, x - y, x, hb, k2.1, ha, by omega⟩
            · exact k5 q hq
    · cases hs
/-- one step but calls and returns; what may be written; whether sums are remembered -/
def ab_step (md : List (Nat × Int)) (sm : Bool) (nL : Nat) (i : Instr) (pe : ax_PE) (pc : Nat) (S : ab_S) : ab_L := match i with
  | .iconst k => ab_push S (pc + 1) k
  | .bipush k => bif decide (-128 ≤ k) && decide (k ≤ 127) then ab_push S (pc + 2) k else none
  | .sipush k => bif decide (-32768 ≤ k) && decide (k ≤ 32767) then ab_push S (pc + 3) k else none
  | .lconst _ => some [(pc + 1, ab_long S S.2.1)]
  | .ldc _ => ab_push S (pc + 2) pe.2.2.2
  | .ldc_w _ => ab_push S (pc + 3) pe.2.2.2
  | .ldc2_w _ => some [(pc + 3, ab_long S S.2.1)]
  | .iload k => ab_ld S (pc + 2) k 0
  | .iload_n k => ab_ld S (pc + 1) k 0
  | .aload k => ab_ld S (pc + 2) k 1
  | .aload_n k => ab_ld S (pc + 1) k 1
  | .lload k => ab_ld S (pc + 2) k 2
  | .lload_n k => ab_ld S (pc + 1) k 2
  | .istore k => ab_sto nL S (pc + 2) k 0
  | .istore_n k => ab_sto nL S (pc + 1) k 0
  | .astore k => ab_sto nL S (pc + 2) k 1
  | .astore_n k => ab_sto nL S (pc + 1) k 1
  | .lstore k => ab_sto nL S (pc + 2) k 2
  | .lstore_n k => ab_sto nL S (pc + 1) k 2
  | .iinc k x => ab_iinc nL S (pc + 3) k x
  | .iadd => ab_addS sm S (pc + 1)
  | .isub => ab_subS sm S (pc + 1)
  | .imul => ab_i2 ab_omul S (pc + 1)
  | .iand => ab_i2 ab_oand S (pc + 1)
  | .ior => ab_i2 ab_oor S (pc + 1)
  | .ishl => ab_i2 ab_oshl S (pc + 1)
  | .ishr => ab_i2 ab_oshr S (pc + 1)
  | .idiv => ab_i2 ab_odiv S (pc + 1)
  | .irem => ab_i2 ab_orem S (pc + 1)
  | .ineg => ab_i1 (fun _ p => ab_neg p) S (pc + 1)
  | .ladd => ab_l2 S (pc + 1)
  | .lmul => ab_l2 S (pc + 1)
  | .land => ab_l2 S (pc + 1)
  | .lshr => ab_li S (pc + 1)
  | .lushr => ab_li S (pc + 1)
  | .i2l => ab_i1 (fun _ _ => .inr (.inr none, [])) S (pc + 1)
  | .l2i => ab_l1 S (pc + 1)
  | .i2b => ab_i1 ab_i2b S (pc + 1)
  | .dup => (match S.2.1 with
    | a :: st => bif Nat.beq (ab_ct S.2.2.1 a) 1 then some [(pc + 1, (S.1, a :: a :: st, S.2.2))] else none
    | _ => none)
  | .dup2 => (match S.2.1 with
    | a :: b :: st => bif Nat.beq (ab_ct S.2.2.1 a) 1 && Nat.beq (ab_ct S.2.2.1 b) 1 then some [(pc + 1, (S.1, a :: b :: a :: b :: st, S.2.2))] else none
    | _ => none)
  | .pop => (match S.2.1 with
    | a :: st => bif Nat.beq (ab_ct S.2.2.1 a) 1 then some [(pc + 1, (S.1, st, S.2.2))] else none
    | _ => none)
  | .goto off => (ax_to pc off).map fun t => [(t, S)]
  | .ifCond c off => (match S.2.1 with
    | a :: st => ab_br S pc c off a (.inl 0) st
    | _ => none)
  | .if_icmp c off => (match S.2.1 with
    | b :: a :: st => ab_br S pc c off a b st
    | _ => none)
  | .getfield _ => ab_getf pe S pc
  | .putfield _ => ab_putf md pe S pc
  | .getstatic _ => some [(pc + 3, (S.1, .inr (.inr (.inr pe.2.1)) :: S.2.1, S.2.2))]
  | .iaload => (match ab_sald S pc with
    | some L => some L
    | none => ab_ald 0 S pc)
  | .baload => ab_ald 1 S pc
  | .aaload => ab_aald S pc
  | .iastore => ab_ast md 0 S pc
  | .bastore => ab_ast md 1 S pc
  | .arraylength => ab_alen S (pc + 1)
  | .tableswitch d lo hi offs => ab_tsw S pc d lo hi offs.toList
  | .lookupswitch d ps => ab_lsw S pc d ps.toList
  | .invokestatic _ => (match S.2.1 with
    | _ :: _ :: st => bif Nat.beq pe.1 9 && Nat.ble (ab_sum S.2.2.1 st) 8 then ab_i2 ab_omin S (pc + 3) else none
    | _ => none)
  | _ => none
end STF
end
section
/-! ===== the step is right ===== -/
section STG
variable {E : ab_E} {S : ab_S} {V : List Value} {pc nL : Nat} {lv : List (Nat × Value)} {st : List Value} {h : ax_H} {n cs ss : Nat} {L : List (Nat × ab_S)} {iv : Nat → Int × Int} {pe : ax_PE}
theorem ab_i8 {k : Int} (h1 : -128 ≤ k) (h2 : k ≤ 127) : (Int8.ofInt k).toInt32 = Int32.ofInt k := by
  apply Int32.toInt_inj.mp
  rw [Int8.toInt_toInt32, Int8.toInt_ofInt_of_le (by omega) (by omega), Int32.toInt_ofInt_of_le (by omega) (by omega)]
theorem ab_i16 {k : Int} (h1 : -32768 ≤ k) (h2 : k ≤ 32767) : (Int16.ofInt k).toInt32 = Int32.ofInt k := by
  apply Int32.toInt_inj.mp
  rw [Int16.toInt_toInt32, Int16.toInt_ofInt_of_le (by omega) (by omega), Int32.toInt_ofInt_of_le (by omega) (by omega)]
theorem ab_nar {x : Int32} (h1 : -128 ≤ x.toInt) (h2 : x.toInt ≤ 127) : vp_nar .byte x = x := by
  show x.toInt8.toInt32 = x
  apply Int32.toInt_inj.mp
  rw [Int8.toInt_toInt32, Int32.toInt_toInt8]
  exact Int.bmod_eq_of_le (by omega) (by omega)
theorem ab_step_ok (hg : ab_g E S V lv st h n cs ss) {sm : Bool} {i : Instr} (hs : ab_step E.2.2.2 sm nL i pe pc S = some L) : ∃ F, ax_step iv nL i pe pc lv st h n cs ss = some F ∧ ab_in E L F := by
  have hg' := hg
  obtain ⟨g1, g2, g3, g4, g5, g6, g7, g8, g9⟩ := hg'
  cases i with
  | iconst k => exact ⟨_, rfl, ab_push_ok hg hs⟩
  | bipush k =>
    obtain ⟨hc, hs2⟩ := ab_bif hs
    simp only [Bool.and_eq_true, decide_eq_true_eq] at hc
    refine ⟨_, rfl, ?_⟩
    rw [ab_i8 hc.1 hc.2]
    exact ab_push_ok hg hs2
  | sipush k =>
    obtain ⟨hc, hs2⟩ := ab_bif hs
    simp only [Bool.and_eq_true, decide_eq_true_eq] at hc
    refine ⟨_, rfl, ?_⟩
    rw [ab_i16 hc.1 hc.2]
    exact ab_push_ok hg hs2
  | lconst k => cases hs; exact ⟨_, rfl, ab_long_ok hg g2 _⟩
  | ldc k => exact ⟨_, rfl, ab_push_ok hg hs⟩
  | ldc_w k => exact ⟨_, rfl, ab_push_ok hg hs⟩
  | ldc2_w k => cases hs; exact ⟨_, rfl, ab_long_ok hg g2 _⟩
  | iload k => exact ab_ld_ok hg hs
  | iload_n k => exact ab_ld_ok hg hs
  | aload k => exact ab_ld_ok hg hs
  | aload_n k => exact ab_ld_ok hg hs
  | lload k => exact ab_ld_ok hg hs
  | lload_n k => exact ab_ld_ok hg hs
  | istore k => exact ab_sto_ok hg hs
  | istore_n k => exact ab_sto_ok hg hs
  | astore k => exact ab_sto_ok hg hs
  | astore_n k => exact ab_sto_ok hg hs
  | lstore k => exact ab_sto_ok hg hs
  | lstore_n k => exact ab_sto_ok hg hs
  | iinc k x =>
    obtain ⟨v, h1, h2, h3⟩ := ab_iinc_ok hg hs
    exact ⟨_, by simp only [ax_step, h1, h2, cond_true], h3⟩
  | iadd => exact ab_addS_ok hg hs
  | isub => exact ab_subS_ok hg hs
  | imul => exact ab_i2_ok hg ab_omul_ok hs
  | iand => exact ab_i2_ok hg ab_oand_ok hs
  | ior => exact ab_i2_ok hg ab_oor_ok hs
  | ishl => exact ab_i2_ok hg ab_oshl_ok hs
  | ishr => exact ab_i2_ok hg ab_oshr_ok hs
  | idiv => exact ab_d2_step hg ab_odiv_ok hs
  | irem => exact ab_d2_step hg ab_orem_ok hs
  | ineg =>
    obtain ⟨x, st', rfl, h2⟩ := ab_i1_ok (op := fun x => .int (-x)) hg (fun a p x _ hp => ab_neg_ok hp) hs
    exact ⟨_, rfl, h2⟩
  | i2l =>
    obtain ⟨x, st', rfl, h2⟩ := ab_i1_ok (f := fun _ _ => .inr (.inr none, [])) (op := fun x => .long x.toInt64) hg (fun a p x _ hp => ⟨⟨_, rfl⟩, ab_no⟩) hs
    exact ⟨_, rfl, h2⟩
  | i2b =>
    obtain ⟨x, st', rfl, h2⟩ := ab_i1_ok (op := fun x => .int x.toInt8.toInt32) hg (fun a p x ha hp => ab_i2b_ok ha hp) hs
    exact ⟨_, rfl, h2⟩
  | l2i =>
    obtain ⟨x, st', rfl, h2⟩ := ab_l1_ok hg hs
    exact ⟨_, rfl, h2⟩
  | ladd => exact ab_l2_ok hg hs
  | lmul => exact ab_l2_ok hg hs
  | land => exact ab_l2_ok hg hs
  | lshr => exact ab_li_ok hg hs
  | lushr => exact ab_li_ok hg hs
  | dup =>
    obtain ⟨lv0, st0, rest⟩ := S
    match st0, st, g2, hs with
    | [], _, _, hs => cases hs
    | a :: sta, [], g2, _ => exact g2.elim
    | a :: sta, v :: st', g2, hs =>
      simp only [ab_step] at hs
      obtain ⟨hc, hs2⟩ := ab_bif hs
      cases hs2
      have e : v.category == 1 := by rw [ab_ct_ok g3 g2.1, ab_nb]; exact hc
      exact ⟨(pc + 1, lv, v :: v :: st', h, n, cs, ss), by simp only [ax_step, e, cond_true], ab_in1 (V := V) ⟨g1, ⟨g2.1, g2.1, g2.2⟩, g3, g4, g5, g6, g7, g8, g9⟩⟩
  | pop =>
    obtain ⟨lv0, st0, rest⟩ := S
    match st0, st, g2, hs with
    | [], _, _, hs => cases hs
    | a :: sta, [], g2, _ => exact g2.elim
    | a :: sta, v :: st', g2, hs =>
      simp only [ab_step] at hs
      obtain ⟨hc, hs2⟩ := ab_bif hs
      cases hs2
      have e : v.category == 1 := by rw [ab_ct_ok g3 g2.1, ab_nb]; exact hc
      exact ⟨_, by simp only [ax_step, e, cond_true], ab_in1 (V := V) ⟨g1, g2.2, g3, g4, g5, g6, g7, g8, g9⟩⟩
  | dup2 =>
    obtain ⟨lv0, st0, rest⟩ := S
    match st0, st, g2, hs with
    | [], _, _, hs => cases hs
    | [_], _, _, hs => cases hs
    | a :: b :: sta, [], g2, _ => exact g2.elim
    | a :: b :: sta, [_], g2, _ => exact g2.2.elim
    | a :: b :: sta, v :: w :: st', g2, hs =>
      simp only [ab_step] at hs
      obtain ⟨hc, hs2⟩ := ab_bif hs
      cases hs2
      simp only [Bool.and_eq_true] at hc
      have e : v.category == 1 := by rw [ab_ct_ok g3 g2.1, ab_nb]; exact hc.1
      have e2 : w.category == 1 := by rw [ab_ct_ok g3 g2.2.1, ab_nb]; exact hc.2
      exact ⟨(pc + 1, lv, v :: w :: v :: w :: st', h, n, cs, ss), by simp only [ax_step, e, e2, Bool.and_self, cond_true], ab_in1 (V := V) ⟨g1, ⟨g2.1, g2.2.1, g2.1, g2.2⟩, g3, g4, g5, g6, g7, g8, g9⟩⟩
  | goto off =>
    simp only [ab_step] at hs
    obtain ⟨t, ht, rfl⟩ := Option.map_eq_some_iff.mp hs
    exact ⟨_, by simp only [ax_step, ht, Option.map_some], ab_in1 hg⟩
  | ifCond c off =>
    obtain ⟨lv0, st0, Γ, rest⟩ := S
    match st0, st, g2, hs, hg with
    | [], _, _, hs, _ => cases hs
    | a :: sta, [], g2, _, _ => exact g2.elim
    | a :: sta, v :: st', g2, hs, hg =>
      simp only [ab_step] at hs
      have hint : ∃ x : Int32, v = .int x := by
        unfold ab_br at hs
        split at hs
        · rename_i tg p q _ hp _
          obtain ⟨x, e, -⟩ := ab_iv_ok g3 hp g2.1
          exact ⟨x, e⟩
        · cases hs
      obtain ⟨x, rfl⟩ := hint
      exact ab_br_ok (iv := iv) hg g2.2 g2.1 (y := 0) rfl hs
  | if_icmp c off =>
    obtain ⟨lv0, st0, Γ, rest⟩ := S
    match st0, st, g2, hs, hg with
    | [], _, _, hs, _ => cases hs
    | [_], _, _, hs, _ => cases hs
    | b :: a :: sta, [], g2, _, _ => exact g2.elim
    | b :: a :: sta, [_], g2, _, _ => exact g2.2.elim
    | b :: a :: sta, w :: v :: st', g2, hs, hg =>
      simp only [ab_step] at hs
      have hint : (∃ x : Int32, v = .int x) ∧ ∃ y : Int32, w = .int y := by
        unfold ab_br at hs
        split at hs
        · rename_i tg p q _ hp hq
          obtain ⟨x, e, -⟩ := ab_iv_ok g3 hp g2.2.1
          obtain ⟨y, e', -⟩ := ab_iv_ok g3 hq g2.1
          exact ⟨⟨x, e⟩, ⟨y, e'⟩⟩
        · cases hs
      obtain ⟨⟨x, rfl⟩, ⟨y, rfl⟩⟩ := hint
      exact ab_br_ok (iv := iv) hg g2.2.2 g2.2.1 g2.1 hs
  | getfield k => exact ab_getf_ok hg hs
  | putfield k => exact ab_putf_ok hg hs
  | getstatic k => cases hs; exact ⟨_, rfl, ab_in1 (V := V) ⟨g1, ⟨rfl, g2⟩, g3, g4, g5, g6, g7, g8, g9⟩⟩
  | iaload =>
    simp only [ab_step] at hs
    split at hs
    · rename_i L' hL'
      cases hs
      exact ab_sald_ok hg hL'
    · obtain ⟨i, k, N, f, st', rfl, h2, h3, h4⟩ := ab_ald_ok hg (by decide) hs
      exact ⟨_, by simp only [ax_step, ax_s_iald, h2, h3, beq_self_eq_true, Bool.and_self, cond_true], h4⟩
  | baload =>
    obtain ⟨i, k, N, f, st', rfl, h2, h3, h4⟩ := ab_ald_ok hg (by decide) hs
    exact ⟨_, by simp only [ax_step, ax_s_bald, h2, h3, beq_self_eq_true, Bool.and_self, cond_true], h4⟩
  | aaload => exact ab_aald_ok hg hs
  | iastore =>
    obtain ⟨x, i, k, N, f, st', rfl, h2, h3, -, h4⟩ := ab_ast_ok hg (by decide) hs
    exact ⟨_, by simp only [ax_step, ax_s_iast, h2, h3, beq_self_eq_true, Bool.and_self, cond_true], h4⟩
  | bastore =>
    obtain ⟨x, i, k, N, f, st', rfl, h2, h3, h5, h4⟩ := ab_ast_ok hg (by decide) hs
    exact ⟨_, by simp only [ax_step, ax_s_bast, h2, h3, ab_nar (h5 rfl).1 (h5 rfl).2, beq_self_eq_true, decide_true, Bool.and_self, cond_true], h4⟩
  | arraylength => exact ab_alen_ok hg hs
  | tableswitch d lo hi offs => exact ab_tsw_ok hg hs
  | lookupswitch d ps => exact ab_lsw_ok hg hs
  | invokestatic k =>
    obtain ⟨lv0, st0, Γ, rest⟩ := S
    match st0, st, g2, hs, hg with
    | [], _, _, hs, _ => cases hs
    | [_], _, _, hs, _ => cases hs
    | b :: a :: sta, [], g2, _, _ => exact g2.elim
    | b :: a :: sta, [_], g2, _, _ => exact g2.2.elim
    | b :: a :: sta, w :: v :: st', g2, hs, hg =>
      simp only [ab_step] at hs
      obtain ⟨hc, hs2⟩ := ab_bif hs
      simp only [Bool.and_eq_true] at hc
      obtain ⟨x, y, st2, a', b', sta', p, q, r, e1, e2, h3, h4, h5, h6, h7, h8, rfl⟩ := ab_i2_sh hg hs2
      cases e1
      cases e2
      obtain ⟨V', hg2⟩ := ab_put_ok hg h3 (ab_omin_ok n V _ _ a b p q x y r g3 hg.2.2.2.1 h4 h5 h6 h7 h8)
      have e3 : (pe.1 == 9) = true := by rw [ab_nb]; exact hc.1
      have e4 : Nat.ble (ax_sum st') 8 = true := by rw [ab_sum_ok g3 h3]; exact hc.2
      exact ⟨_, by simp only [ax_step, e3, e4, Bool.and_self, cond_true], ab_in1 hg2⟩
  | _ => cases hs
end STG
end
