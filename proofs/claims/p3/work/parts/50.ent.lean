/-! ===== one state goes into another ===== -/
def ab_sb (σ : List ab_V) : ab_V → Option ab_V
  | .inr (.inl u) => σ[u]?
  | .inl c => some (.inl c)
  | .inr (.inr a) => some (.inr (.inr a))
/-- the values of a template's symbols -/
def ab_vl (V : List Value) (σ : List ab_V) : List Value := σ.map fun a => (ab_cv V a).getD (.int 0)
def ab_all (V : List Value) (σ : List ab_V) : Prop := ∀ b ∈ σ, ∃ w, ab_cv V b = some w
theorem ab_sb_cv {V : List Value} {σ : List ab_V} (hσ : ab_all V σ) {a b : ab_V} (h : ab_sb σ a = some b) : ab_cv (ab_vl V σ) a = ab_cv V b := by
  rcases a with c | (u | (k | j))
  · cases h; rfl
  · have hb : σ[u]? = some b := h
    obtain ⟨w, hw⟩ := hσ b (List.mem_of_getElem? hb)
    show (ab_vl V σ)[u]? = _
    rw [ab_vl, List.getElem?_map, hb, hw]
    simp [hw]
  · cases h; rfl
  · cases h; rfl
/-- two values, the first under a substitution, are the same -/
def ab_same (σ : List ab_V) (a b : ab_V) : Bool := match ab_sb σ a with
  | some a' => ab_veq a' b
  | none => false
theorem ab_same_ok {V : List Value} {σ : List ab_V} (hσ : ab_all V σ) {a b : ab_V} (h : ab_same σ a b = true) : ab_cv (ab_vl V σ) a = ab_cv V b := by
  unfold ab_same at h
  split at h
  · rename_i a' ha
    rw [ab_sb_cv hσ ha, ab_veq_ok h]
  · cases h
/-- a value is of a type, by its bounds and by differences -/
def ab_isw (Γ : List ab_Y) (C : List (Nat × Nat × Int)) (a : ab_V) (τ : ab_Y) : Bool := match τ with
  | .inl (lo, hi, f) => (match ab_to Γ a with
    | some (.inl (l, h, g)) => decide (lo ≤ l) && ((decide (h ≤ hi) || (ab_rng hi && ab_leq Γ C 3 a (.inl hi) 0)) && ab_fge l (min h hi) g f)
    | _ => false)
  | .inr τ => ab_is Γ a (.inr τ)
theorem ab_to_cv {n : Nat} {V : List Value} {Γ : List ab_Y} (hΓ : ab_ty n V Γ) {a : ab_V} {τ : ab_Y} (h : ab_to Γ a = some τ) : ∃ w, ab_cv V a = some w := by
  rcases a with c | (u | (k | j))
  · simp only [ab_to, ab_cv] at h ⊢
    cases e : ab_rng c with
    | false => rw [e] at h; cases h
    | true => exact ⟨_, rfl⟩
  · obtain ⟨w, h1, -⟩ := hΓ.2 u τ h
    exact ⟨w, h1⟩
  · exact ⟨_, rfl⟩
  · exact ⟨_, rfl⟩
theorem ab_isw_cv {n : Nat} {V : List Value} {Γ : List ab_Y} (hΓ : ab_ty n V Γ) {C : List (Nat × Nat × Int)} {a : ab_V} {τ : ab_Y} (h : ab_isw Γ C a τ = true) : ∃ w, ab_cv V a = some w := by
  unfold ab_isw at h
  split at h
  · split at h
    · rename_i e
      exact ab_to_cv hΓ e
    · cases h
  · unfold ab_is at h
    split at h
    · rename_i e
      exact ab_to_cv hΓ e
    · cases h
theorem ab_isw_ok {n : Nat} {V : List Value} {Γ : List ab_Y} {C : List (Nat × Nat × Int)} (hn : 573 ≤ n) (hΓ : ab_ty n V Γ) (hC : ab_co V C) {a : ab_V} {τ : ab_Y} (h : ab_isw Γ C a τ = true) {v : Value} (hv : ab_cv V a = some v) : ab_ok n v τ := by
  unfold ab_isw at h
  split at h
  · rename_i lo hi f
    split at h
    · rename_i l hh g e
      simp only [Bool.and_eq_true, Bool.or_eq_true, decide_eq_true_eq] at h
      obtain ⟨h1, h2, h3⟩ := h
      obtain ⟨x, rfl, h4, h5, h6⟩ := ab_to_ok hn hΓ e hv
      have h7 : x.toInt ≤ hi := by
        rcases h2 with h2 | ⟨h2, h8⟩
        · omega
        · have hy : ab_cv V (.inl hi) = some (.int (Int32.ofInt hi)) := by
            show (bif ab_rng hi then _ else none) = _
            rw [h2]; rfl
          have := ab_leq_ok hΓ hC h8 hv hy
          rw [ab_rng_ok h2] at this
          omega
      exact ⟨x, rfl, by omega, h7, ab_fge_ok h3 h4 (by omega) h6⟩
    · cases h
  · exact ab_is_ok hn hΓ h hv
/-- all first elements are of a type -/
def ab_seg (S : ab_S) (o b : ab_V) (τ : ab_Y) : Bool := match ab_mo S.2.2.1 o, ab_iv S.2.2.1 b with
  | some _, some p => decide (p.2 ≤ 0) || ((S.2.2.2.2.2.1.any fun z => ab_veq z.1 o && (ab_le z.2.2 τ && (ab_leq S.2.2.1 S.2.2.2.1 3 b z.2.1 0 || (ab_leq S.2.2.1 S.2.2.2.1 3 b z.2.1 1 && match ab_fd S.2.2.2.2.1 o z.2.1 with
      | some v => ab_is S.2.2.1 v τ
      | none => false)))) || (decide (p.2 ≤ 1) && match ab_fd S.2.2.2.2.1 o (.inl 0) with
      | some v => ab_is S.2.2.1 v τ
      | none => false))
  | _, _ => false
section ENT
variable {E : ab_E} {S : ab_S} {V : List Value} {lv : List (Nat × Value)} {st : List Value} {h : ax_H} {n cs ss : Nat}
theorem ab_seg_ok (hg : ab_g E S V lv st h n cs ss) {o b : ab_V} {τ : ab_Y} (hs : ab_seg S o b τ = true) : ∃ (k : Nat) (b' : Int32), ab_cv V o = some (.ref k) ∧ ab_cv V b = some (.int b') ∧ ∀ i : Int, 0 ≤ i → i < b'.toInt → ∃ w, ab_rd h k i = some w ∧ ab_ok n w τ := by
  obtain ⟨g1, g2, g3, g4, g5, g6, g7, g8, g9⟩ := hg
  have hn := g8.1.1
  unfold ab_seg at hs
  split at hs
  · rename_i M p hM hp
    have ho : ∃ w, ab_cv V o = some w := by
      unfold ab_mo at hM
      split at hM
      · rename_i e
        exact ab_to_cv g3 e
      · cases hM
    have hb : ∃ w, ab_cv V b = some w := by
      rcases b with c | (u | (k | j))
      · simp only [ab_iv, ab_cv] at hp ⊢
        cases e : ab_rng c with
        | false => rw [e] at hp; cases hp
        | true => exact ⟨_, rfl⟩
      · simp only [ab_iv] at hp
        split at hp
        · rename_i hu
          obtain ⟨w, h1, -⟩ := g3.2 u _ hu
          exact ⟨w, h1⟩
        · cases hp
      · cases hp
      · cases hp
    obtain ⟨w, ho⟩ := ho
    obtain ⟨w', hb⟩ := hb
    obtain ⟨k, rfl, -, -⟩ := ab_mo_ok hn g3 hM ho
    obtain ⟨b', rfl, hb1, hb2⟩ := ab_iv_ok g3 hp hb
    refine ⟨k, b', ho, hb, fun i hi0 hi1 => ?_⟩
    simp only [Bool.or_eq_true, Bool.and_eq_true, decide_eq_true_eq] at hs
    rcases hs with hs | hs | ⟨hs, hs2⟩
    · omega
    · obtain ⟨z, hz, hzc⟩ := List.any_eq_true.mp hs
      simp only [Bool.or_eq_true, Bool.and_eq_true] at hzc
      obtain ⟨hz1, hz2, hz3⟩ := hzc
      obtain ⟨k', bz, e1, e2, e3⟩ := g6 z hz
      rw [ab_veq_ok hz1, ho] at e1
      cases e1
      by_cases hlt : i < bz.toInt
      · obtain ⟨w, f1, f2⟩ := e3 i hi0 hlt
        exact ⟨w, f1, ab_le_ok hz2 f2⟩
      · rcases hz3 with hz3 | ⟨hz3, hz4⟩
        · have := ab_leq_ok g3 g4 hz3 hb e2
          omega
        · have := ab_leq_ok g3 g4 hz3 hb e2
          have hi : i = bz.toInt := by omega
          split at hz4
          · rename_i v hv
            obtain ⟨w, f1, f2⟩ := ab_fd_ok g5 hv ho e2
            rw [hi]
            exact ⟨w, f2, ab_is_ok hn g3 hz4 f1⟩
          · cases hz4
    · split at hs2
      · rename_i v hv
        have h0 : ab_cv V (.inl 0) = some (.int (Int32.ofInt 0)) := rfl
        obtain ⟨w, f1, f2⟩ := ab_fd_ok g5 hv ho h0
        have hi : i = (Int32.ofInt 0).toInt := by
          have : (Int32.ofInt 0).toInt = 0 := rfl
          omega
        rw [hi]
        exact ⟨w, f2, ab_is_ok hn g3 hs2 f1⟩
      · cases hs2
  · cases hs
def ab_stS (σ : List ab_V) : List ab_V → List ab_V → Bool
  | [], [] => true
  | a :: L, b :: M => ab_same σ a b && ab_stS σ L M
  | _, _ => false
theorem ab_stS_ok {σ : List ab_V} (hσ : ab_all V σ) : ∀ {L M : List ab_V} {st : List Value}, ab_stS σ L M = true → ab_stR V M st → ab_stR (ab_vl V σ) L st
  | [], [], [], _, _ => trivial
  | [], [], _ :: _, _, h => h.elim
  | a :: L, b :: M, [], _, h => h.elim
  | a :: L, b :: M, v :: st, h, hr => by
    simp only [ab_stS, Bool.and_eq_true] at h
    exact ⟨by rw [ab_same_ok hσ h.1]; exact hr.1, ab_stS_ok hσ h.2 hr.2⟩
  | [], _ :: _, _, h, _ => by cases h
  | _ :: _, [], _, h, _ => by cases h
def ab_tyS (Γ : List ab_Y) (C : List (Nat × Nat × Int)) : List ab_V → List ab_Y → Bool
  | [], [] => true
  | a :: σ, τ :: Δ => ab_isw Γ C a τ && ab_tyS Γ C σ Δ
  | _, _ => false
theorem ab_tyS_ok {Γ : List ab_Y} {C : List (Nat × Nat × Int)} (hn : 573 ≤ n) (hΓ : ab_ty n V Γ) (hC : ab_co V C) : ∀ {σ : List ab_V} {Δ : List ab_Y}, ab_tyS Γ C σ Δ = true → ab_all V σ ∧ σ.length = Δ.length ∧ ∀ (u : Nat) (τ : ab_Y), Δ[u]? = some τ → ∃ b w, σ[u]? = some b ∧ ab_cv V b = some w ∧ ab_ok n w τ
  | [], [], _ => ⟨fun b (hb : b ∈ ([] : List ab_V)) => (nomatch hb), rfl, fun u τ hu => by simp at hu⟩
  | a :: σ, τ :: Δ, h => by
    simp only [ab_tyS, Bool.and_eq_true] at h
    obtain ⟨i1, i2, i3⟩ := ab_tyS_ok hn hΓ hC (σ := σ) (Δ := Δ) h.2
    obtain ⟨w, hw⟩ := ab_isw_cv hΓ h.1
    refine ⟨fun b hb => ?_, by simp [i2], fun u σ' hu => ?_⟩
    · rcases List.mem_cons.mp hb with rfl | hb
      · exact ⟨w, hw⟩
      · exact i1 b hb
    · cases u with
      | zero =>
        simp only [List.getElem?_cons_zero, Option.some.injEq] at hu
        subst hu
        exact ⟨a, w, rfl, hw, ab_isw_ok hn hΓ hC h.1 hw⟩
      | succ u =>
        simp only [List.getElem?_cons_succ] at hu ⊢
        exact i3 u σ' hu
  | [], _ :: _, h => by cases h
  | _ :: _, [], h => by cases h
def ab_symV (u : Nat) : ab_V := .inr (.inl u)
/-- the first so many symbols stand for themselves -/
def ab_self (σ : List ab_V) (n0 : Nat) : Bool := (List.range n0).all fun u => match σ[u]? with
  | some a => ab_veq a (ab_symV u)
  | none => false
/-- a state S is as a state T says, by a substitution for T's symbols -/
def ab_ent (S T : ab_S) (σ : List ab_V) : Bool :=
  ab_tyS S.2.2.1 S.2.2.2.1 σ T.2.2.1 && ((T.1.all fun q => match ab_lk S.1 q.1 with
    | some b => ab_same σ q.2 b
    | none => false) && (ab_stS σ T.2.1 S.2.1 && ((T.2.2.2.1.all fun q => match σ[q.1]?, σ[q.2.1]? with
    | some a, some b => (match ab_iv S.2.2.1 a, ab_iv S.2.2.1 b with
      | some _, some _ => ab_leq S.2.2.1 S.2.2.2.1 4 a b q.2.2
      | _, _ => false)
    | _, _ => false) && ((T.2.2.2.2.1.all fun q => S.2.2.2.2.1.any fun r => ab_same σ q.1 r.1 && (ab_same σ q.2.1 r.2.1 && ab_same σ q.2.2 r.2.2)) && ((T.2.2.2.2.2.1.all fun z => match ab_sb σ z.1, ab_sb σ z.2.1 with
    | some o, some b => ab_seg S o b z.2.2
    | _, _ => false) && (Nat.beq S.2.2.2.2.2.2.1 T.2.2.2.2.2.2.1 && Nat.beq S.2.2.2.2.2.2.2 T.2.2.2.2.2.2.2))))))
theorem ab_lk_in {L : List (Nat × ab_V)} {k : Nat} {a : ab_V} (hk : ab_lk L k = some a) : (k, a) ∈ L := by
  unfold ab_lk at hk
  obtain ⟨q, hq, rfl⟩ := Option.map_eq_some_iff.mp hk
  have h1 : q.1 = k := by simpa [Nat.beq_eq] using List.find?_some hq
  rw [← h1]
  exact List.mem_of_find?_eq_some hq
theorem ab_ent_ok (hg : ab_g E S V lv st h n cs ss) {T : ab_S} {σ : List ab_V} (he : ab_ent S T σ = true) {W : List Value} (hW : ∀ (u : Nat) (v : Value), W[u]? = some v → (ab_vl V σ)[u]? = some v) : ab_g (W, E.2) T (ab_vl V σ) lv st h n cs ss := by
  obtain ⟨g1, g2, g3, g4, g5, g6, g7, g8, g9⟩ := id hg
  have hn := g8.1.1
  unfold ab_ent at he
  simp only [Bool.and_eq_true] at he
  obtain ⟨e1, e2, e3, e4, e5, e6, e7, e8⟩ := he
  obtain ⟨hσ, hl, ht⟩ := ab_tyS_ok hn g3 g4 e1
  refine ⟨fun k a hk => ?_, ab_stS_ok hσ e3 g2, ⟨?_, fun u τ hu => ?_⟩, fun q hq => ?_, fun q hq => ?_, fun z hz => ?_, ?_, g8, hW⟩
  · have h1 := List.all_eq_true.mp e2 _ (ab_lk_in hk)
    split at h1
    · rename_i b hb
      obtain ⟨v, h2, h3⟩ := g1 k b hb
      exact ⟨v, h2, by rw [ab_same_ok hσ h1]; exact h3⟩
    · cases h1
  · rw [ab_vl, List.length_map]; exact hl
  · obtain ⟨b, w, h1, h2, h3⟩ := ht u τ hu
    exact ⟨w, by rw [ab_vl, List.getElem?_map, h1]; simp [h2], h3⟩
  · have h1 := List.all_eq_true.mp e4 _ hq
    split at h1
    · rename_i a b ha hb
      split at h1
      · rename_i p r hp hr
        obtain ⟨wa, hwa⟩ := hσ a (List.mem_of_getElem? ha)
        obtain ⟨wb, hwb⟩ := hσ b (List.mem_of_getElem? hb)
        obtain ⟨x, rfl, -⟩ := ab_iv_ok g3 hp hwa
        obtain ⟨y, rfl, -⟩ := ab_iv_ok g3 hr hwb
        refine ⟨x, y, ?_, ?_, ab_leq_ok g3 g4 h1 hwa hwb⟩
        · rw [ab_vl, List.getElem?_map, ha]; simp [hwa]
        · rw [ab_vl, List.getElem?_map, hb]; simp [hwb]
      · cases h1
    · cases h1
  · obtain ⟨r, hr, hc⟩ := List.any_eq_true.mp (List.all_eq_true.mp e5 _ hq)
    simp only [Bool.and_eq_true] at hc
    rcases g5 r hr with ⟨k, x, w, f1, f2, f3, f4⟩ | ⟨x, y, z, f1, f2, f3, f4⟩
    · exact Or.inl ⟨k, x, w, by rw [ab_same_ok hσ hc.1]; exact f1, by rw [ab_same_ok hσ hc.2.1]; exact f2, by rw [ab_same_ok hσ hc.2.2]; exact f3, f4⟩
    · exact Or.inr ⟨x, y, z, by rw [ab_same_ok hσ hc.1]; exact f1, by rw [ab_same_ok hσ hc.2.1]; exact f2, by rw [ab_same_ok hσ hc.2.2]; exact f3, f4⟩
  · have h1 := List.all_eq_true.mp e6 _ hz
    split at h1
    · rename_i o b ho hb
      obtain ⟨k, b', f1, f2, f3⟩ := ab_seg_ok hg h1
      exact ⟨k, b', by rw [ab_sb_cv hσ ho]; exact f1, by rw [ab_sb_cv hσ hb]; exact f2, f3⟩
    · cases h1
  · simp only [Nat.beq_eq] at e7 e8
    exact ⟨by rw [← e7]; exact g7.1, by rw [← e8]; exact g7.2⟩
theorem ab_self_ok {σ : List ab_V} {n0 : Nat} (hs : ab_self σ n0 = true) {W : List Value} (hl : W.length ≤ n0) (hW : ∀ (u : Nat) (v : Value), W[u]? = some v → V[u]? = some v) : ∀ (u : Nat) (v : Value), W[u]? = some v → (ab_vl V σ)[u]? = some v := by
  intro u v hu
  have hlt : u < W.length := (List.getElem?_eq_some_iff.mp hu).1
  have h1 := List.all_eq_true.mp hs u (List.mem_range.mpr (by omega))
  split at h1
  · rename_i a ha
    rw [ab_vl, List.getElem?_map, ha, ab_veq_ok h1]
    have : ab_cv V (ab_symV u) = some v := hW u v hu
    simp [this]
  · cases h1
theorem ab_stR_ext {V V' : List Value} (hx : ab_ext V V') : ∀ {L : List ab_V} {st : List Value}, ab_stR V L st → ab_stR V' L st
  | [], [], _ => trivial
  | a :: L, v :: st, h => ⟨ab_ext_cv hx h.1, ab_stR_ext hx h.2⟩
  | [], _ :: _, h => h.elim
  | _ :: _, [], h => h.elim
theorem ab_lvR_ext {V V' : List Value} (hx : ab_ext V V') {L : List (Nat × ab_V)} {lv : List (Nat × Value)} (h : ab_lvR V L lv) : ab_lvR V' L lv := fun k a hk => by
  obtain ⟨v, h1, h2⟩ := h k a hk
  exact ⟨v, h1, ab_ext_cv hx h2⟩
/-- reading a field without use of the stack -/
def ab_gho (S : ab_S) (o : ab_V) (j : Nat) : ab_S := match ab_fd S.2.2.2.2.1 o (.inl j) with
  | some _ => S
  | none => match ab_mo S.2.2.1 o with
    | some M => (match ab_ftj M j, ab_K[(ab_ks M).headD 0]? with
      | some τ, some (.inr (ci, _)) => bif ab_rng j && ab_fck M ci j τ then (match ab_load S [] o (.inl j) τ with
          | (lv, _, r) => (lv, S.2.1, r)) else S
      | _, _ => S)
    | none => S
theorem ab_gho_ok (hg : ab_g E S V lv st h n cs ss) (o : ab_V) (j : Nat) : ∃ V', ab_ext V V' ∧ ab_g E (ab_gho S o j) V' lv st h n cs ss := by
  have hno : ∃ V', ab_ext V V' ∧ ab_g E S V' lv st h n cs ss := ⟨V, ab_ext_refl V, hg⟩
  unfold ab_gho
  split
  · exact hno
  · split
    · rename_i M hM
      split
      · rename_i τ ci τs hτ hK
        cases e : (ab_rng j && ab_fck M ci j τ) with
        | false => exact hno
        | true =>
          simp only [Bool.and_eq_true] at e
          obtain ⟨g1, g2, g3, g4, g5, g6, g7, g8, g9⟩ := id hg
          have hn := g8.1.1
          have ho : ∃ w, ab_cv V o = some w := by
            unfold ab_mo at hM
            split at hM
            · rename_i e
              exact ab_to_cv g3 e
            · cases hM
          obtain ⟨w, ho⟩ := ho
          obtain ⟨k, rfl, hk, hMk⟩ := ab_mo_ok hn g3 hM ho
          obtain ⟨fs, v, f1, f2, f3⟩ := ab_fck_ok g8.1 hMk hk e.2
          have hj : ab_cv V (.inl (j : Int)) = some (.int (Int32.ofInt j)) := by
            show (bif ab_rng j then _ else none) = _
            rw [e.1]; rfl
          have hr : ab_rd h k (Int32.ofInt (j : Int)).toInt = some v := by
            rw [ab_rng_ok e.1]
            unfold ab_rd
            rw [f1]
            have : decide ((j : Int) < 0) = false := by simp
            simp only [this, cond_false]
            rw [Int.toNat_natCast]
            exact f2
          obtain ⟨V', hx, hg'⟩ := ab_load_ok (st := []) (st1 := []) hg trivial ho hj hr f3
          obtain ⟨k1, k2, k3, k4, k5, k6, k7, k8, k9⟩ := hg'
          refine ⟨V', hx, ?_⟩
          show ab_g E ((ab_load S [] o (.inl j) τ).1, S.2.1, (ab_load S [] o (.inl j) τ).2.2) V' lv st h n cs ss
          refine ⟨k1, ?_, k3, k4, k5, k6, k7, k8, k9⟩
          exact ab_stR_ext hx g2
      · exact hno
    · exact hno
end ENT
