/-! ===== arrays of cells, static arrays, writing ===== -/
section STO
variable {E : ab_E} {S : ab_S} {V : List Value} {pc nL : Nat} {lv : List (Nat × Value)} {st : List Value} {h : ax_H} {n cs ss : Nat} {L : List (Nat × ab_S)} {iv : Nat → Int × Int} {pe : ax_PE}
def ab_t0 (M : Nat) : Nat := match ab_ks M with
  | κ :: _ => (match ab_K[κ]? with
    | some (.inl (t, _)) => t
    | _ => 0)
  | [] => 0
def ab_aald (S : ab_S) (pc : Nat) : ab_L := match S.2.1 with
  | i :: o :: st => match ab_iv S.2.2.1 i, ab_mo S.2.2.1 o with
    | some p, some M => match ab_lens M, ab_atj M none with
      | some (N1, N2), some τ => bif (Nat.ble 2 (ab_t0 M) && Nat.blt (ab_t0 M) 5) && (ab_ack M (ab_t0 M) none τ && ab_inb S M N1 o i p) then (match ab_lim S.2.2.1 i 0 ((N2 : Int) - 1) with
          | some Γ' => some [(pc + 1, ab_load (S.1, S.2.1, Γ', S.2.2.2) st o i τ)]
          | none => none) else none
      | _, _ => none
    | _, _ => none
  | _ => none
theorem ab_aald_ok (hg : ab_g E S V lv st h n cs ss) (hs : ab_aald S pc = some L) : ∃ F, ax_s_aald pc lv st h n cs ss = some F ∧ ab_in E L F := by
  obtain ⟨lv0, st0, Γ, C, rest⟩ := S
  have hg' := hg
  obtain ⟨g1, g2, g3, g4, g5, g6, g7, ⟨g8, g8', g8''⟩, g9⟩ := hg
  match st0, st, g2, hs with
  | [], _, _, hs => cases hs
  | [_], _, _, hs => cases hs
  | i :: o :: sta, [], g2, _ => exact g2.elim
  | i :: o :: sta, [v], g2, _ => exact g2.2.elim
  | i :: o :: sta, v :: w :: st', g2, hs =>
    simp only [ab_aald] at hs
    split at hs
    · rename_i p M hp hM
      obtain ⟨x, rfl, hx⟩ := ab_iv_ok g3 hp g2.1
      obtain ⟨k, rfl, hk, hb⟩ := ab_mo_ok g8.1 g3 hM g2.2.1
      split at hs
      · rename_i N1 N2 τ hl hτ
        generalize ab_t0 M = t at hs
        obtain ⟨hc, hs⟩ := ab_bif hs
        simp only [Bool.and_eq_true, Nat.ble_eq, Nat.blt_eq] at hc
        obtain ⟨⟨t1, t2⟩, hc⟩ := hc
        obtain ⟨N, f, r1, r2, r3⟩ := ab_ack_ref g8 hb hk t1 hc.1
        obtain ⟨l1, l2, l3⟩ := ab_lens_ok g8 hb hk r1 hl
        have hin := ab_inb_ok hg' g2.2.1 g2.1 hx r1 l1 l3 hc.2
        have hxN : x.toNatClampNeg = x.toInt.toNat := rfl
        obtain ⟨Γ', e1, e2⟩ := ab_lim_g hg' (i := i) g2.1 (lo := 0) (hi' := (N2 : Int) - 1) hin.1 (by omega)
        rw [e1] at hs
        cases hs
        obtain ⟨k', f1, f2⟩ := r3 x.toNatClampNeg (by omega)
        have hrd : ab_rd h k x.toInt = some (.ref k') := by
          unfold ab_rd
          rw [r1]
          simp only [decide_eq_false (show ¬ x.toInt < 0 by omega), cond_false]
          rw [show x.toInt.toNat = x.toNatClampNeg from rfl, f1]
          rfl
        obtain ⟨V', -, hg2⟩ := ab_load_ok e2 g2.2.2 g2.2.1 g2.1 hrd f2
        have htc : ∃ q, ax_tc t = some q := by
          match t, t1, t2 with
          | 2, _, _ => exact ⟨_, rfl⟩
          | 3, _, _ => exact ⟨_, rfl⟩
          | 4, _, _ => exact ⟨_, rfl⟩
        obtain ⟨q, hq⟩ := htc
        have hB : ax_inB x N = true := by simp only [ax_inB, decide_eq_true hin.1, decide_eq_true hin.2, Bool.and_self]
        refine ⟨(pc + 1, lv, .ref k' :: st', h, n, cs, ss), ?_, ab_in1 hg2⟩
        simp only [ax_s_aald, r1, hq, hB, cond_true, f1, Option.map_some]
      · cases hs
    · cases hs
/-- a static array's least and greatest between two places -/
def ab_mm (L : List Int32) : Option (Int × Int) := match L with
  | [] => none
  | x :: L => some (L.foldl (fun r y => (min r.1 y.toInt, max r.2 y.toInt)) (x.toInt, x.toInt))
def ab_sald (S : ab_S) (pc : Nat) : ab_L := match S.2.1 with
  | i :: .inr (.inr (.inr j)) :: st => match ab_iv S.2.2.1 i, ax_st[j]? with
    | some p, some z => match ab_mm ((z.2.2.drop p.1.toNat).take (p.2 - p.1 + 1).toNat) with
      | some r => bif decide (0 ≤ p.1) && (decide (p.2 < z.2.2.length) && ((z.2.2.drop p.1.toNat).take (p.2 - p.1 + 1).toNat).all (fun y => decide (r.1 ≤ y.toInt) && decide (y.toInt ≤ r.2))) then some [(pc + 1, ab_put S st (ab_mk r.1 r.2 0 []))] else none
      | none => none
    | _, _ => none
  | _ => none
theorem ab_sald_ok (hg : ab_g E S V lv st h n cs ss) (hs : ab_sald S pc = some L) : ∃ F, ax_s_iald pc lv st h n cs ss = some F ∧ ab_in E L F := by
  obtain ⟨lv0, st0, Γ, C, rest⟩ := S
  have hg' := hg
  obtain ⟨g1, g2, g3, g4, g5, g6, g7, ⟨g8, g8', g8''⟩, g9⟩ := hg
  unfold ab_sald at hs
  split at hs
  · rename_i i j sta hst
    simp only at hst
    subst hst
    match st, g2 with
    | [], g2 => exact g2.elim
    | [_], g2 => exact g2.2.elim
    | v :: w :: st', g2 =>
      obtain ⟨h1, h2, h3⟩ := g2
      cases h2
      split at hs
      · rename_i p z hp hz
        obtain ⟨x, rfl, hx⟩ := ab_iv_ok g3 hp h1
        split at hs
        · rename_i r hr
          obtain ⟨hc, hs⟩ := ab_bif hs
          simp only [Bool.and_eq_true, decide_eq_true_eq] at hc
          obtain ⟨c1, c2, c3⟩ := hc
          cases hs
          have hxN : x.toNatClampNeg = x.toInt.toNat := rfl
          have hlt : x.toNatClampNeg < z.2.2.length := by omega
          have hB : ax_inB x z.2.2.length = true := by simp only [ax_inB, decide_eq_true (show 0 ≤ x.toInt by omega), decide_eq_true (show x.toInt < (z.2.2.length : Int) by omega), Bool.and_self]
          have hmem : z.2.2.getD x.toNatClampNeg 0 ∈ (z.2.2.drop p.1.toNat).take (p.2 - p.1 + 1).toNat := by
            rw [List.getD_eq_getElem?_getD, List.getElem?_eq_getElem hlt]
            refine List.mem_of_getElem? (i := x.toNatClampNeg - p.1.toNat) ?_
            rw [List.getElem?_take_of_lt (by omega), List.getElem?_drop, show p.1.toNat + (x.toNatClampNeg - p.1.toNat) = x.toNatClampNeg by omega, List.getElem?_eq_getElem hlt]
            rfl
          have hb := List.all_eq_true.mp c3 _ hmem
          simp only [Bool.and_eq_true, decide_eq_true_eq] at hb
          obtain ⟨V', hg2⟩ := ab_put_ok hg' h3 (r := ab_mk r.1 r.2 0 []) (w := .int (z.2.2.getD x.toNatClampNeg 0)) (ab_mk_ok fun _ _ => ⟨hb.1, hb.2, trivial, ab_no⟩)
          refine ⟨_, ?_, ab_in1 hg2⟩
          simp only [ax_s_iald, hz, hB, cond_true]
        · cases hs
      · cases hs
  · cases hs
/-- all kinds of an array may be written so -/
def ab_wok (md : List (Nat × Int)) (Γ : List ab_Y) (t : Nat) (v : ab_V) (M : Nat) : Bool := (ab_ks M).all fun κ => match ab_K[κ]? with
  | some (.inl (t', _, _, σ, σs)) => Nat.beq t' t && (σs.isEmpty && (ab_is Γ v σ && (!(Nat.beq κ 30 || (Nat.beq κ 33 || (Nat.beq κ 64 || Nat.beq κ 52))) && md.any (fun q => Nat.testBit q.1 κ && decide (q.2 = -2)))))
  | _ => false
def ab_ast (md : List (Nat × Int)) (t : Nat) (S : ab_S) (pc : Nat) : ab_L := match S.2.1 with
  | v :: i :: o :: st => match ab_iv S.2.2.1 i, ab_mo S.2.2.1 o, ab_iv S.2.2.1 v with
    | some p, some M, some pv => match ab_lens M with
      | some (N1, N2) => bif ab_wok md S.2.2.1 t v M && (ab_inb S M N1 o i p && (Nat.beq t 0 || decide (-128 ≤ pv.1) && decide (pv.2 ≤ 127))) then (match ab_lim S.2.2.1 i 0 ((N2 : Int) - 1) with
          | some Γ' => some [(pc + 1, ab_wr (S.1, S.2.1, Γ', S.2.2.2) st o i v)]
          | none => none) else none
      | none => none
    | _, _, _ => none
  | _ => none
theorem ab_ast_ok (hg : ab_g E S V lv st h n cs ss) {t : Nat} (ht : t < 2) (hs : ab_ast E.2.2.2 t S pc = some L) : ∃ (x i : Int32) (k N : Nat) (f : List (Nat × Int32)) (st' : List Value), st = .int x :: .int i :: .ref k :: st' ∧ ax_raw h k = some (.inl (t, N, .inl f)) ∧ ax_inB i N = true ∧ (t = 1 → -128 ≤ x.toInt ∧ x.toInt ≤ 127) ∧ ab_in E L (pc + 1, lv, st', ax_hset h k (.inl (t, N, .inl ((i.toNatClampNeg, x) :: f))), n, cs, ss) := by
  obtain ⟨lv0, st0, Γ, C, rest⟩ := S
  have hg' := hg
  obtain ⟨g1, g2, g3, g4, g5, g6, g7, ⟨g8, g8', g8''⟩, g9⟩ := hg
  match st0, st, g2, hs with
  | [], _, _, hs => cases hs
  | [_], _, _, hs => cases hs
  | [_, _], _, _, hs => cases hs
  | v :: i :: o :: sta, [], g2, _ => exact g2.elim
  | v :: i :: o :: sta, [_], g2, _ => exact g2.2.elim
  | v :: i :: o :: sta, [_, _], g2, _ => exact g2.2.2.elim
  | v :: i :: o :: sta, a :: b :: w :: st', g2, hs =>
    simp only [ab_ast] at hs
    split at hs
    · rename_i p M pv hp hM hv
      obtain ⟨y, rfl, hy⟩ := ab_iv_ok g3 hv g2.1
      obtain ⟨x, rfl, hx⟩ := ab_iv_ok g3 hp g2.2.1
      obtain ⟨k, rfl, hk, hb⟩ := ab_mo_ok g8.1 g3 hM g2.2.2.1
      split at hs
      · rename_i N1 N2 hl
        obtain ⟨hc, hs2⟩ := ab_bif hs
        simp only [Bool.and_eq_true, Bool.or_eq_true, Nat.beq_eq, decide_eq_true_eq] at hc
        obtain ⟨c1, c2, c3⟩ := hc
        obtain ⟨d, P, r1, r2, r3⟩ := g8.2.1 k hk
        have hall := List.all_eq_true.mp c1 _ (ab_ks_in hb r2)
        rw [r2] at hall
        rcases P with ⟨t', M1, M2, σ, σs⟩ | ⟨ci, τs⟩
        case inr => cases hall
        simp only [Bool.and_eq_true, Nat.beq_eq, List.isEmpty_iff, Bool.not_eq_true', Bool.or_eq_false_iff] at hall
        obtain ⟨rfl, rfl, a3, ⟨a41, a42, a43, a44⟩, a5⟩ := hall
        rcases d with ⟨td, N, f | f⟩ | ⟨cj, fs⟩
        case inl.inr => exact absurd r3.2.1 (by omega)
        case inr => cases r3
        obtain ⟨rfl, b2, b3, b4, b5, b6⟩ := r3
        obtain ⟨l1, l2, l3⟩ := ab_lens_ok g8 hb hk r1 hl
        have hin := ab_inb_ok hg' g2.2.2.1 g2.2.1 hx r1 l1 l3 c2
        have hxN : x.toNatClampNeg = x.toInt.toNat := rfl
        obtain ⟨Γ', e1, e2⟩ := ab_lim_g hg' (i := i) g2.2.1 (lo := 0) (hi' := (N2 : Int) - 1) hin.1 (by omega)
        rw [e1] at hs2
        cases hs2
        have hrd := fun k' i' => ab_rd_ast (i0 := x.toNatClampNeg) (x := y) r1 k' i'
        rw [show ((x.toNatClampNeg : Nat) : Int) = x.toInt by omega] at hrd
        have hyσ := ab_is_ok g8.1 g3 a3 g2.1
        have hJ : ab_J (ax_hset h k (.inl (td, N, .inl ((x.toNatClampNeg, y) :: f)))) := by
          refine ab_J_st hrd hin.1 ?_ (fun hq => ?_) g8.2.2.1
          · simp only [ab_pt, a41, a42, a43, a44, Bool.false_and, Bool.or_self]
          · simp only [ab_pq, a41, Bool.false_and] at hq
            cases hq
        have hH : ab_HT (ax_hset h k (.inl (td, N, .inl ((x.toNatClampNeg, y) :: f)))) n := by
          refine ab_HT_set g8 r1 (fun P' hP' hcf => ?_) hJ
          rw [r2] at hP'
          cases hP'
          refine ⟨rfl, b2, b3, b4, b5, fun j hj => ?_⟩
          have := b6 j hj
          by_cases hjx : j = x.toNatClampNeg
          · subst hjx
            have e : ax_fi ((x.toNatClampNeg, y) :: f) x.toNatClampNeg = y := by simp [ax_fi, upd]
            rw [e]
            exact ⟨hyσ, hyσ⟩
          · have e : ax_fi ((x.toNatClampNeg, y) :: f) j = ax_fi f j := by simp [ax_fi, upd, hjx]
            rw [e]
            exact this
        have hmd : ab_md E.2.2.2 (ab_k k) x.toInt = true := by
          unfold ab_md
          obtain ⟨q, hq1, hq2⟩ := List.any_eq_true.mp a5
          refine List.any_eq_true.mpr ⟨q, hq1, ?_⟩
          simp only [Bool.and_eq_true, decide_eq_true_eq] at hq2
          simp only [hq2.1, hq2.2, decide_eq_true hin.1, Bool.true_and, decide_true, Bool.or_true, Bool.and_true]
        have hg2 := ab_wr_ok e2 g2.2.2.2 g2.2.2.1 g2.2.1 g2.1 hrd hH hmd
        refine ⟨y, x, k, N, f, st', rfl, r1, by simp only [ax_inB, decide_eq_true hin.1, decide_eq_true hin.2, Bool.and_self], fun h1 => ?_, ab_in1 hg2⟩
        rcases c3 with c3 | c3
        · omega
        · omega
      · cases hs
    · cases hs
/-- a value of a type fits a field -/
def ab_fitB (ty : FieldType) (τ : ab_Y) : Bool := match τ with
  | .inl (lo, hi, _) => decide (ty = .int) || (decide (ty = .boolean) && (decide (0 ≤ lo) && decide (hi ≤ 1)))
  | .inr (some _) => fits ty .null
  | .inr none => decide (ty = .long)
theorem ab_fitB_ok {ty : FieldType} {τ : ab_Y} {v : Value} (h : ab_fitB ty τ = true) (hv : ab_ok n v τ) : ax_fit ty v = true := by
  rcases τ with ⟨lo, hi, f⟩ | (_ | M)
  · obtain ⟨x, rfl, h1, h2, -⟩ := hv
    simp only [ab_fitB, Bool.or_eq_true, Bool.and_eq_true, decide_eq_true_eq] at h
    rcases h with rfl | ⟨rfl, h3, h4⟩
    · simp [ax_fit, narrow, fits]
    · have : x.toInt = 0 ∨ x.toInt = 1 := by omega
      have hx : x = 0 ∨ x = 1 := by
        rcases this with e | e
        · left; exact Int32.toInt_inj.mp e
        · right; exact Int32.toInt_inj.mp e
      rcases hx with rfl | rfl <;> rfl
  · obtain ⟨x, rfl⟩ := hv
    have : ty = .long := of_decide_eq_true h
    subst this
    rfl
  · obtain ⟨k, rfl, -⟩ := hv
    exact h
/-- what is written into what the bounds speak of -/
def ab_fc (S : ab_S) (v : ab_V) (j : Int) : Bool := match ab_fd S.2.2.2.2.1 (.inr (.inr (.inl 28))) (.inl j) with
  | some b => ab_leq S.2.2.1 S.2.2.2.1 3 v b 0
  | none => false
def ab_gd (S : ab_S) (v : ab_V) : Bool := ab_veq v (.inl 0) || (ab_fc S v 6 || (ab_fc S v 7 || match ab_fd S.2.2.2.2.1 (.inr (.inr (.inl 28))) (.inl 4) with
    | some w => (match ab_fd S.2.2.2.2.1 w (.inl (-1)) with
      | some b => ab_leq S.2.2.1 S.2.2.2.1 3 v b 0
      | none => false)
    | none => false))
theorem ab_ri6 (hH : ab_HT h n) : 0 ≤ ab_ri h 28 6 := by
  obtain ⟨fs, v, h1, h2, h3⟩ := ab_fck_ok (k := 28) (M := 2 ^ 30) (ci := 7) (j := 6) (τ := .inl (0, 2147483647, 0)) hH (by decide +kernel) (Nat.lt_of_lt_of_le (by decide) hH.1) (by decide +kernel)
  obtain ⟨x, rfl, h4, -⟩ := h3
  have : ab_rd h 28 6 = some (.int x) := by
    unfold ab_rd
    rw [h1]
    exact h2
  unfold ab_ri
  rw [this]
  exact h4
theorem ab_fc_ok (g3 : ab_ty n V S.2.2.1) (g4 : ab_co V S.2.2.2.1) (g5 : ab_ca V h S.2.2.2.2.1) {v : ab_V} {x : Int32} (hi : ab_cv V v = some (.int x)) {j : Int} (hj : ab_rng j = true) (hb : ab_fc S v j = true) : x.toInt ≤ ab_ri h 28 j := by
  unfold ab_fc at hb
  split at hb
  · rename_i b hf
    obtain ⟨w, h1, h2⟩ := ab_fd_ok g5 hf (k := 28) (x := Int32.ofInt j) rfl (by show (bif ab_rng j then _ else none) = _; rw [hj]; rfl)
    obtain ⟨y, rfl⟩ := ab_leq_int g3 hb h1
    have := ab_leq_ok g3 g4 hb hi h1
    rw [ab_rng_ok hj] at h2
    have h3 : ab_ri h 28 j = y.toInt := by unfold ab_ri; rw [h2]
    omega
  · cases hb
theorem ab_gd_ok (g3 : ab_ty n V S.2.2.1) (g4 : ab_co V S.2.2.2.1) (g5 : ab_ca V h S.2.2.2.2.1) (hH : ab_HT h n) {v : ab_V} {x : Int32} (hi : ab_cv V v = some (.int x)) (hb : ab_gd S v = true) : ∀ u : Nat, ab_rd h 28 4 = some (.ref u) → x.toInt ≤ ab_ri h 28 6 ∨ x.toInt ≤ ab_ri h 28 7 ∨ x.toInt ≤ ab_ri h u (-1) := by
  intro u hu
  unfold ab_gd at hb
  simp only [Bool.or_eq_true] at hb
  rcases hb with hb | hb | hb | hb
  · rw [ab_veq_ok hb] at hi
    cases hi
    have := ab_ri6 hH
    left
    exact this
  · exact Or.inl (ab_fc_ok g3 g4 g5 hi (by decide) hb)
  · exact Or.inr (Or.inl (ab_fc_ok g3 g4 g5 hi (by decide) hb))
  · split at hb
    · rename_i w hf
      obtain ⟨w', h1, h2⟩ := ab_fd_ok g5 hf (k := 28) (x := Int32.ofInt 4) rfl rfl
      rw [show (Int32.ofInt 4).toInt = 4 from rfl, hu] at h2
      cases h2
      split at hb
      · rename_i b hf2
        obtain ⟨w2, h3, h4⟩ := ab_fd_ok g5 hf2 h1 (x := Int32.ofInt (-1)) rfl
        obtain ⟨y, rfl⟩ := ab_leq_int g3 hb h3
        have := ab_leq_ok g3 g4 hb hi h3
        rw [show (Int32.ofInt (-1)).toInt = -1 from rfl] at h4
        have h5 : ab_ri h u (-1) = y.toInt := by unfold ab_ri; rw [h4]
        right; right
        omega
      · cases hb
    · cases hb
def ab_pok (md : List (Nat × Int)) (S : ab_S) (ci j : Nat) (v : ab_V) (M : Nat) : Bool := (ab_ks M).all fun κ => match ab_K[κ]? with
  | some (.inr (ci', τs)) => Nat.beq ci' ci && (match τs[j]? with
    | some σ => ab_is S.2.2.1 v σ && (ab_fitB (ax_ty ci j) σ && (!(ab_pt κ j) && ((!(ab_pq κ j) || ab_gd S v) && ab_md md κ j)))
    | none => false)
  | _ => false
def ab_putf (md : List (Nat × Int)) (pe : ax_PE) (S : ab_S) (pc : Nat) : ab_L := match S.2.1 with
  | v :: o :: st => match ab_mo S.2.2.1 o with
    | some M => bif ab_rng pe.2.2.1 && ab_pok md S pe.2.1 pe.2.2.1 v M then some [(pc + 3, ab_wr S st o (.inl pe.2.2.1) v)] else none
    | none => none
  | _ => none
theorem ab_putf_ok (hg : ab_g E S V lv st h n cs ss) (hs : ab_putf E.2.2.2 pe S pc = some L) : ∃ F, ax_s_putf pe pc lv st h n cs ss = some F ∧ ab_in E L F := by
  obtain ⟨lv0, st0, Γ, C, rest⟩ := S
  have hg' := hg
  obtain ⟨g1, g2, g3, g4, g5, g6, g7, ⟨g8, g8', g8''⟩, g9⟩ := hg
  match st0, st, g2, hs with
  | [], _, _, hs => cases hs
  | [_], _, _, hs => cases hs
  | v :: o :: sta, [], g2, _ => exact g2.elim
  | v :: o :: sta, [_], g2, _ => exact g2.2.elim
  | v :: o :: sta, w :: a :: st', g2, hs =>
    simp only [ab_putf] at hs
    split at hs
    · rename_i M hM
      obtain ⟨k, rfl, hk, hb⟩ := ab_mo_ok g8.1 g3 hM g2.2.1
      obtain ⟨hc, hs2⟩ := ab_bif hs
      simp only [Bool.and_eq_true] at hc
      obtain ⟨c0, c1⟩ := hc
      obtain ⟨d, P, r1, r2, r3⟩ := g8.2.1 k hk
      have hall := List.all_eq_true.mp c1 _ (ab_ks_in hb r2)
      rw [r2] at hall
      rcases P with ⟨t', M1, M2, σ, σs⟩ | ⟨ci, τs⟩
      case inl => cases hall
      simp only [Bool.and_eq_true, Nat.beq_eq] at hall
      obtain ⟨rfl, hall⟩ := hall
      rcases d with ⟨td, N, f | f⟩ | ⟨cj, fs⟩
      case inl.inl => cases r3
      case inl.inr => cases r3
      obtain ⟨rfl, b2, b3⟩ := r3
      cases hσ : τs[pe.2.2.1]? with
      | none => rw [hσ] at hall; cases hall
      | some σ =>
        rw [hσ] at hall
        simp only [Bool.and_eq_true, Bool.not_eq_true', Bool.or_eq_true] at hall
        obtain ⟨a1, a2, a3, a4, a5⟩ := hall
        have hj : pe.2.2.1 < fs.length := by rw [b2]; exact (List.getElem?_eq_some_iff.mp hσ).1
        have hw := ab_is_ok g8.1 g3 a1 g2.1
        have hfit := ab_fitB_ok a2 hw
        have hrd := fun k' i' => ab_rd_put (w := w) r1 hj k' i'
        have hJ : ab_J (ax_hset h k (.inr (pe.2.1, fs.set pe.2.2.1 w))) := by
          refine ab_J_st hrd (by omega) a3 (fun hq => ?_) g8.2.2.1
          rcases a4 with a4 | a4
          · rw [hq] at a4; cases a4
          · have hint : ∃ z : Int32, w = .int z := by
              have hkk : ab_k k = 30 := by
                simp only [ab_pq, Bool.and_eq_true, Nat.beq_eq] at hq
                exact hq.1
              have hj67 : pe.2.2.1 = 6 ∨ pe.2.2.1 = 7 := by
                simp only [ab_pq, Bool.and_eq_true, Bool.or_eq_true, decide_eq_true_eq] at hq
                omega
              rw [hkk] at r2
              have hK : ab_K[30]? = some ks_30 := rfl
              rw [hK] at r2
              have r2' : ks_30 = .inr (pe.2.1, τs) := Option.some.inj r2
              have hτ : τs = (match ks_30 with
                | .inr q => q.2
                | .inl _ => []) := by rw [r2']
              rw [hτ] at hσ
              rcases hj67 with e | e <;> rw [e] at hσ <;> (have hσ' := Option.some.inj hσ; rw [← hσ'] at hw; obtain ⟨z, e, -⟩ := hw; exact ⟨z, e⟩)
            obtain ⟨z, rfl⟩ := hint
            exact ⟨z, rfl, ab_gd_ok g3 g4 g5 g8 g2.1 a4⟩
        have hH : ab_HT (ax_hset h k (.inr (pe.2.1, fs.set pe.2.2.1 w))) n := by
          refine ab_HT_set g8 r1 (fun P' hP' hcf => ?_) hJ
          rw [r2] at hP'
          cases hP'
          refine ⟨rfl, by rw [List.length_set]; exact b2, fun j u hu => ?_⟩
          by_cases hjx : pe.2.2.1 = j
          · subst hjx
            rw [List.getElem?_set_self hj] at hu
            cases hu
            exact ⟨σ, hσ, hw⟩
          · rw [List.getElem?_set_ne hjx] at hu
            exact b3 j u hu
        have hmd : ab_md E.2.2.2 (ab_k k) (Int32.ofInt (pe.2.2.1 : Int)).toInt = true := by rw [ab_rng_ok c0]; exact a5
        have hg2 := ab_wr_ok (i := .inl (pe.2.2.1 : Int)) (x := Int32.ofInt (pe.2.2.1 : Int)) hg' g2.2.2 g2.2.1 (by show (bif ab_rng pe.2.2.1 then _ else none) = _; rw [c0]; rfl) g2.1 (by rw [ab_rng_ok c0]; exact hrd) hH hmd
        cases hs2
        refine ⟨_, ?_, ab_in1 hg2⟩
        have hblt : Nat.blt pe.2.2.1 fs.length = true := by simpa [Nat.blt_eq] using hj
        simp only [ax_s_putf, r1, beq_self_eq_true, hblt, hfit, Bool.and_self, cond_true]
    · cases hs
end STO
