section
/-! ===== one state goes into another ===== -/
def ab_sb (σ : List ab_V) : ab_V → Option ab_V
  | .inr (.inl u) => σ[u]?
  | .inl c => some (.inl c)
  | .inr (.inr a) => some (.inr (.inr a))
/-- the values of a template's symbols -/
def ab_vl (V : List Value) (σ : List ab_V) : List Value := σ.map fun a => (ab_cv V a).getD (.int 0)
def ab_all (V : List Value) (σ : List ab_V) : Prop := ∀ b ∈ σ, ∃ w, ab_cv V b = some w
theorem ab_sb_cv {V : List Value} {σ : List ab_V} (hσ : ab_all V σ) {a b : ab_V} (h : ab_sb σ a = some b) : ab_cv (ab_vl V σ) a = ab_cv V b := by
  rcases a with c | (u | (k | j))
  · cases h; rfl
  · have hb : σ[u]? = some b := h
    obtain ⟨w, hw⟩ := hσ b (List.mem_of_getElem? hb)
    show (ab_vl V σ)[u]? = _
    rw [ab_vl, List.getElem?_map, hb, hw]
    simp [hw]
  · cases h; rfl
  · cases h; rfl
/-- two values, the first under a substitution, are the same -/
def ab_same (σ : List ab_V) (a b : ab_V) : Bool := match ab_sb σ a with
  | some a' => ab_veq a' b
  | none => false
theorem ab_same_ok {V : List Value} {σ : List ab_V} (hσ : ab_all V σ) {a b : ab_V} (h : ab_same σ a b = true) : ab_cv (ab_vl V σ) a = ab_cv V b := by
  unfold ab_same at h
  split at h
  · rename_i a' ha
    rw [ab_sb_cv hσ ha, ab_veq_ok h]
  · cases h
/-- a value is of a type, by its bounds and by differences -/
def ab_isw (Γ : List ab_Y) (C : List (Nat × Nat × Int)) (a : ab_V) (τ : ab_Y) : Bool := match τ with
  | .inl (lo, hi, f) => (match ab_to Γ a with
    | some (.inl (l, h, g)) => decide (lo ≤ l) && ((decide (h ≤ hi) || (ab_rng hi && ab_leq Γ C 3 a (.inl hi) 0)) && ab_fge l (min h hi) g f)
    | _ => false)
  | .inr τ => ab_is Γ a (.inr τ)
theorem ab_to_cv {n : Nat} {V : List Value} {Γ : List ab_Y} (hΓ : ab_ty n V Γ) {a : ab_V} {τ : ab_Y} (h : ab_to Γ a = some τ) : ∃ w, ab_cv V a = some w := by
  rcases a with c | (u | (k | j))
  · simp only [ab_to, ab_cv] at h ⊢
    cases e : ab_rng c with
    | false => rw [e] at h; cases h
    | true => exact ⟨_, rfl⟩
  · obtain ⟨w, h1, -⟩ := hΓ.2 u τ h
    exact ⟨w, h1⟩
  · exact ⟨_, rfl⟩
  · exact ⟨_, rfl⟩
theorem ab_isw_cv {n : Nat} {V : List Value} {Γ : List ab_Y} (hΓ : ab_ty n V Γ) {C : List (Nat × Nat × Int)} {a : ab_V} {τ : ab_Y} (h : ab_isw Γ C a τ = true) : ∃ w, ab_cv V a = some w := by
  unfold ab_isw at h
  split at h
  · split at h
    · rename_i e
      exact ab_to_cv hΓ e
    · cases h
  · unfold ab_is at h
    split at h
    · rename_i e
      exact ab_to_cv hΓ e
    · cases h
theorem ab_isw_ok {n : Nat} {V : List Value} {Γ : List ab_Y} {C : List (Nat × Nat × Int)} (hn : 573 ≤ n) (hΓ : ab_ty n V Γ) (hC : ab_co V C) {a : ab_V} {τ : ab_Y} (h : ab_isw Γ C a τ = true) {v : Value} (hv : ab_cv V a = some v) : ab_ok n v τ := by
  unfold ab_isw at h
  split at h
  · rename_i lo hi f
    split at h
    · rename_i l hh g e
      simp only [Bool.and_eq_true, Bool.or_eq_true, decide_eq_true_eq] at h
      obtain ⟨h1, h2, h3⟩ := h
      obtain ⟨x, rfl, h4, h5, h6⟩ := ab_to_ok hn hΓ e hv
      have h7 : x.toInt ≤ hi := by
        rcases h2 with h2 | ⟨h2, h8⟩
        · omega
        · have hy : ab_cv V (.inl hi) = some (.int (Int32.ofInt hi)) := by
            show (bif ab_rng hi then _ else none) = _
            rw [h2]; rfl
          have := ab_leq_ok hΓ hC h8 hv hy
          rw [ab_rng_ok h2] at this
          omega
      exact ⟨x, rfl, by omega, h7, ab_fge_ok h3 h4 (by omega) h6⟩
    · cases h
  · exact ab_is_ok hn hΓ h hv
/-- all first elements are of a type -/
def ab_seg (S : ab_S) (o b : ab_V) (τ : ab_Y) : Bool := match ab_mo S.2.2.1 o, ab_iv S.2.2.1 b with
  | some _, some p => decide (p.2 ≤ 0) || ((S.2.2.2.2.2.1.any fun z => ab_veq z.1 o && (ab_le z.2.2 τ && (ab_leq S.2.2.1 S.2.2.2.1 3 b z.2.1 0 || (ab_leq S.2.2.1 S.2.2.2.1 3 b z.2.1 1 && match ab_fd S.2.2.2.2.1 o z.2.1 with
      | some v => ab_is S.2.2.1 v τ
      | none => false)))) || (decide (p.2 ≤ 1) && match ab_fd S.2.2.2.2.1 o (.inl 0) with
      | some v => ab_is S.2.2.1 v τ
      | none => false))
  | _, _ => false
section ENT
variable {E : ab_E} {S : ab_S} {V : List Value} {lv : List (Nat × Value)} {st : List Value} {h : ax_H} {n cs ss : Nat}
theorem ab_seg_ok (hg : ab_g E S V lv st h n cs ss) {o b : ab_V} {τ : ab_Y} (hs : ab_seg S o b τ = true) : ∃ (k : Nat) (b' : Int32), ab_cv V o = some (.ref k) ∧ ab_cv V b = some (.int b') ∧ ∀ i : Int, 0 ≤ i → i < b'.toInt → ∃ w, ab_rd h k i = some w ∧ ab_ok n w τ := by
  obtain ⟨g1, g2, g3, g4, g5, g6, g7, g8, g9⟩ := hg
  have hn := g8.1.1
  unfold ab_seg at hs
  split at hs
  · rename_i M p hM hp
    have ho : ∃ w, ab_cv V o = some w := by
      unfold ab_mo at hM
      split at hM
      · rename_i e
        exact ab_to_cv g3 e
      · cases hM
    have hb : ∃ w, ab_cv V b = some w := by
      rcases b with c | (u | (k | j))
      · simp only [ab_iv, ab_cv] at hp ⊢
        cases e : ab_rng c with
        | false => rw [e] at hp; cases hp
        | true => exact ⟨_, rfl⟩
      · simp only [ab_iv] at hp
        split at hp
        · rename_i hu
          obtain ⟨w, h1, -⟩ := g3.2 u _ hu
          exact ⟨w, h1⟩
        · cases hp
      · cases hp
      · cases hp
    obtain ⟨w, ho⟩ := ho
    obtain ⟨w', hb⟩ := hb
    obtain ⟨k, rfl, -, -⟩ := ab_mo_ok hn g3 hM ho
    obtain ⟨b', rfl, hb1, hb2⟩ := ab_iv_ok g3 hp hb
    refine ⟨k, b', ho, hb, fun i hi0 hi1 => ?_⟩
    simp only [Bool.or_eq_true, Bool.and_eq_true, decide_eq_true_eq] at hs
    rcases hs with hs | hs | ⟨hs, hs2⟩
    · omega
    · obtain ⟨z, hz, hzc⟩ := List.any_eq_true.mp hs
      simp only [Bool.or_eq_true, Bool.and_eq_true] at hzc
      obtain ⟨hz1, hz2, hz3⟩ := hzc
      obtain ⟨k', bz, e1, e2, e3⟩ := g6 z hz
      rw [ab_veq_ok hz1, ho] at e1
      cases e1
      by_cases hlt : i < bz.toInt
      · obtain ⟨w, f1, f2⟩ := e3 i hi0 hlt
        exact ⟨w, f1, ab_le_ok hz2 f2⟩
      · rcases hz3 with hz3 | ⟨hz3, hz4⟩
        · have := ab_leq_ok g3 g4 hz3 hb e2
          omega
        · have := ab_leq_ok g3 g4 hz3 hb e2
          have hi : i = bz.toInt := by omega
          split at hz4
          · rename_i v hv
            obtain ⟨w, f1, f2⟩ := ab_fd_ok g5 hv ho e2
            rw [hi]
            exact ⟨w, f2, ab_is_ok hn g3 hz4 f1⟩
          · cases hz4
    · split at hs2
      · rename_i v hv
        have h0 : ab_cv V (.inl 0) = some (.int (Int32.ofInt 0)) := rfl
        obtain ⟨w, f1, f2⟩ := ab_fd_ok g5 hv ho h0
        have hi : i = (Int32.ofInt 0).toInt := by
          have : (Int32.ofInt 0).toInt = 0 := rfl
          omega
        rw [hi]
        exact ⟨w, f2, ab_is_ok hn g3 hs2 f1⟩
      · cases hs2
  · cases hs
def ab_stS (σ : List ab_V) : List ab_V → List ab_V → Bool
  | [], [] => true
  | a :: L, b :: M => ab_same σ a b && ab_stS σ L M
  | _, _ => false
theorem ab_stS_ok {σ : List ab_V} (hσ : ab_all V σ) : ∀ {L M : List ab_V} {st : List Value}, ab_stS σ L M = true → ab_stR V M st → ab_stR (ab_vl V σ) L st
  | [], [], [], _, _ => trivial
  | [], [], _ :: _, _, h => h.elim
  | a :: L, b :: M, [], _, h => h.elim
  | a :: L, b :: M, v :: st, h, hr => by
    simp only [ab_stS, Bool.and_eq_true] at h
    exact ⟨by rw [ab_same_ok hσ h.1]; exact hr.1, ab_stS_ok hσ h.2 hr.2⟩
  | [], _ :: _, _, h, _ => by cases h
  | _ :: _, [], _, h, _ => by cases h
def ab_tyS (Γ : List ab_Y) (C : List (Nat × Nat × Int)) : List ab_V → List ab_Y → Bool
  | [], [] => true
  | a :: σ, τ :: Δ => ab_isw Γ C a τ && ab_tyS Γ C σ Δ
  | _, _ => false
theorem ab_tyS_ok {Γ : List ab_Y} {C : List (Nat × Nat × Int)} (hn : 573 ≤ n) (hΓ : ab_ty n V Γ) (hC : ab_co V C) : ∀ {σ : List ab_V} {Δ : List ab_Y}, ab_tyS Γ C σ Δ = true → ab_all V σ ∧ σ.length = Δ.length ∧ ∀ (u : Nat) (τ : ab_Y), Δ[u]? = some τ → ∃ b w, σ[u]? = some b ∧ ab_cv V b = some w ∧ ab_ok n w τ
  | [], [], _ => ⟨fun b (hb : b ∈ ([] : List ab_V)) => (nomatch hb), rfl, fun u τ hu => by simp at hu⟩
  | a :: σ, τ :: Δ, h => by
    simp only [ab_tyS, Bool.and_eq_true] at h
    obtain ⟨i1, i2, i3⟩ := ab_tyS_ok hn hΓ hC (σ := σ) (Δ := Δ) h.2
    obtain ⟨w, hw⟩ := ab_isw_cv hΓ h.1
    refine ⟨fun b hb => ?_, by simp [i2], fun u σ' hu => ?_⟩
    · rcases List.mem_cons.mp hb with rfl | hb
      · exact ⟨w, hw⟩
      · exact i1 b hb
    · cases u with
      | zero =>
        simp only [List.getElem?_cons_zero, Option.some.injEq] at hu
        subst hu
        exact ⟨a, w, rfl, hw, ab_isw_ok hn hΓ hC h.1 hw⟩
      | succ u =>
        simp only [List.getElem?_cons_succ] at hu ⊢
        exact i3 u σ' hu
  | [], _ :: _, h => by cases h
  | _ :: _, [], h => by cases h
def ab_symV (u : Nat) : ab_V := .inr (.inl u)
/-- the first so many symbols stand for themselves -/
def ab_self (σ : List ab_V) (n0 : Nat) : Bool := (List.range n0).all fun u => match σ[u]? with
  | some a => ab_veq a (ab_symV u)
  | none => false
/-- a state S is as a state T says, by a substitution for T's symbols -/
def ab_ent (S T : ab_S) (σ : List ab_V) : Bool :=
  ab_tyS S.2.2.1 S.2.2.2.1 σ T.2.2.1 && ((T.1.all fun q => match ab_lk S.1 q.1 with
    | some b => ab_same σ q.2 b
    | none => false) && (ab_stS σ T.2.1 S.2.1 && ((T.2.2.2.1.all fun q => match σ[q.1]?, σ[q.2.1]? with
    | some a, some b => (match ab_iv S.2.2.1 a, ab_iv S.2.2.1 b with
      | some _, some _ => ab_leq S.2.2.1 S.2.2.2.1 4 a b q.2.2
      | _, _ => false)
    | _, _ => false) && ((T.2.2.2.2.1.all fun q => S.2.2.2.2.1.any fun r => ab_same σ q.1 r.1 && (ab_same σ q.2.1 r.2.1 && ab_same σ q.2.2 r.2.2)) && ((T.2.2.2.2.2.1.all fun z => match ab_sb σ z.1, ab_sb σ z.2.1 with
    | some o, some b => ab_seg S o b z.2.2
    | _, _ => false) && (Nat.beq S.2.2.2.2.2.2.1 T.2.2.2.2.2.2.1 && Nat.beq S.2.2.2.2.2.2.2 T.2.2.2.2.2.2.2))))))
theorem ab_lk_in {L : List (Nat × ab_V)} {k : Nat} {a : ab_V} (hk : ab_lk L k = some a) : (k, a) ∈ L := by
  unfold ab_lk at hk
  obtain ⟨q, hq, rfl⟩ := Option.map_eq_some_iff.mp hk
  have h1 : q.1 = k := by simpa [Nat.beq_eq] using List.find?_some hq
  rw [← h1]
  exact List.mem_of_find?_eq_some hq
theorem ab_ent_ok (hg : ab_g E S V lv st h n cs ss) {T : ab_S} {σ : List ab_V} (he : ab_ent S T σ = true) {W : List Value} (hW : ∀ (u : Nat) (v : Value), W[u]? = some v → (ab_vl V σ)[u]? = some v) : ab_g (W, E.2) T (ab_vl V σ) lv st h n cs ss := by
  obtain ⟨g1, g2, g3, g4, g5, g6, g7, g8, g9⟩ := id hg
  have hn := g8.1.1
  unfold ab_ent at he
  simp only [Bool.and_eq_true] at he
  obtain ⟨e1, e2, e3, e4, e5, e6, e7, e8⟩ := he
  obtain ⟨hσ, hl, ht⟩ := ab_tyS_ok hn g3 g4 e1
  refine ⟨fun k a hk => ?_, ab_stS_ok hσ e3 g2, ⟨?_, fun u τ hu => ?_⟩, fun q hq => ?_, fun q hq => ?_, fun z hz => ?_, ?_, g8, hW⟩
  · have h1 := List.all_eq_true.mp e2 _ (ab_lk_in hk)
    split at h1
    · rename_i b hb
      obtain ⟨v, h2, h3⟩ := g1 k b hb
      exact ⟨v, h2, by rw [ab_same_ok hσ h1]; exact h3⟩
    · cases h1
  · rw [ab_vl, List.length_map]; exact hl
  · obtain ⟨b, w, h1, h2, h3⟩ := ht u τ hu
    exact ⟨w, by rw [ab_vl, List.getElem?_map, h1]; simp [h2], h3⟩
  · have h1 := List.all_eq_true.mp e4 _ hq
    split at h1
    · rename_i a b ha hb
      split at h1
      · rename_i p r hp hr
        obtain ⟨wa, hwa⟩ := hσ a (List.mem_of_getElem? ha)
        obtain ⟨wb, hwb⟩ := hσ b (List.mem_of_getElem? hb)
        obtain ⟨x, rfl, -⟩ := ab_iv_ok g3 hp hwa
        obtain ⟨y, rfl, -⟩ := ab_iv_ok g3 hr hwb
        refine ⟨x, y, ?_, ?_, ab_leq_ok g3 g4 h1 hwa hwb⟩
        · rw [ab_vl, List.getElem?_map, ha]; simp [hwa]
        · rw [ab_vl, List.getElem?_map, hb]; simp [hwb]
      · cases h1
    · cases h1
  · obtain ⟨r, hr, hc⟩ := List.any_eq_true.mp (List.all_eq_true.mp e5 _ hq)
    simp only [Bool.and_eq_true] at hc
    rcases g5 r hr with ⟨k, x, w, f1, f2, f3, f4⟩ | ⟨x, y, z, f1, f2, f3, f4⟩
    · exact Or.inl ⟨k, x, w, by rw [ab_same_ok hσ hc.1]; exact f1, by rw [ab_same_ok hσ hc.2.1]; exact f2, by rw [ab_same_ok hσ hc.2.2]; exact f3, f4⟩
    · exact Or.inr ⟨x, y, z, by rw [ab_same_ok hσ hc.1]; exact f1, by rw [ab_same_ok hσ hc.2.1]; exact f2, by rw [ab_same_ok hσ hc.2.2]; exact f3, f4⟩
  · have h1 := List.all_eq_true.mp e6 _ hz
    split at h1
    · rename_i o b ho hb
      obtain ⟨k, b', f1, f2, f3⟩ := ab_seg_ok hg h1
      exact ⟨k, b', by rw [ab_sb_cv hσ ho]; exact f1, by rw [ab_sb_cv hσ hb]; exact f2, f3⟩
    · cases h1
  · simp only [Nat.beq_eq] at e7 e8
    exact ⟨by rw [← e7]; exact g7.1, by rw [← e8]; exact g7.2⟩
theorem ab_self_ok {σ : List ab_V} {n0 : Nat} (hs : ab_self σ n0 = true) {W : List Value} (hl : W.length ≤ n0) (hW : ∀ (u : Nat) (v : Value), W[u]? = some v → V[u]? = some v) : ∀ (u : Nat) (v : Value), W[u]? = some v → (ab_vl V σ)[u]? = some v := by
  intro u v hu
  have hlt : u < W.length := (List.getElem?_eq_some_iff.mp hu).1
  have h1 := List.all_eq_true.mp hs u (List.mem_range.mpr (by omega))
  split at h1
  · rename_i a ha
    rw [ab_vl, List.getElem?_map, ha, ab_veq_ok h1]
    have : ab_cv V (ab_symV u) = some v := hW u v hu
    simp [this]
  · cases h1
theorem ab_stR_ext {V V' : List Value} (hx : ab_ext V V') : ∀ {L : List ab_V} {st : List Value}, ab_stR V L st → ab_stR V' L st
  | [], [], _ => trivial
  | a :: L, v :: st, h => ⟨ab_ext_cv hx h.1, ab_stR_ext hx h.2⟩
  | [], _ :: _, h => h.elim
  | _ :: _, [], h => h.elim
theorem ab_lvR_ext {V V' : List Value} (hx : ab_ext V V') {L : List (Nat × ab_V)} {lv : List (Nat × Value)} (h : ab_lvR V L lv) : ab_lvR V' L lv := fun k a hk => by
  obtain ⟨v, h1, h2⟩ := h k a hk
  exact ⟨v, h1, ab_ext_cv hx h2⟩
/-- reading a field without use of the stack -/
def ab_gho (S : ab_S) (o : ab_V) (j : Nat) : ab_S := match ab_fd S.2.2.2.2.1 o (.inl j) with
  | some _ => S
  | none => match ab_mo S.2.2.1 o with
    | some M => (match ab_ftj M j, ab_K[(ab_ks M).headD 0]? with
      | some τ, some (.inr (ci, _)) => bif ab_rng j && ab_fck M ci j τ then (match ab_load S [] o (.inl j) τ with
          | (lv, _, r) => (lv, S.2.1, r)) else S
      | _, _ => S)
    | none => S
theorem ab_gho_ok (hg : ab_g E S V lv st h n cs ss) (o : ab_V) (j : Nat) : ∃ V', ab_ext V V' ∧ ab_g E (ab_gho S o j) V' lv st h n cs ss := by
  have hno : ∃ V', ab_ext V V' ∧ ab_g E S V' lv st h n cs ss := ⟨V, ab_ext_refl V, hg⟩
  unfold ab_gho
  split
  · exact hno
  · split
    · rename_i M hM
      split
      · rename_i τ ci τs hτ hK
        cases e : (ab_rng j && ab_fck M ci j τ) with
        | false => exact hno
        | true =>
          simp only [Bool.and_eq_true] at e
          obtain ⟨g1, g2, g3, g4, g5, g6, g7, g8, g9⟩ := id hg
          have hn := g8.1.1
          have ho : ∃ w, ab_cv V o = some w := by
            unfold ab_mo at hM
            split at hM
            · rename_i e
              exact ab_to_cv g3 e
            · cases hM
          obtain ⟨w, ho⟩ := ho
          obtain ⟨k, rfl, hk, hMk⟩ := ab_mo_ok hn g3 hM ho
          obtain ⟨fs, v, f1, f2, f3⟩ := ab_fck_ok g8.1 hMk hk e.2
          have hj : ab_cv V (.inl (j : Int)) = some (.int (Int32.ofInt j)) := by
            show (bif ab_rng j then _ else none) = _
            rw [e.1]; rfl
          have hr : ab_rd h k (Int32.ofInt (j : Int)).toInt = some v := by
            rw [ab_rng_ok e.1]
            unfold ab_rd
            rw [f1]
            have : decide ((j : Int) < 0) = false := by simp
            simp only [this, cond_false]
            rw [Int.toNat_natCast]
            exact f2
          obtain ⟨V', hx, hg'⟩ := ab_load_ok (st := []) (st1 := []) hg trivial ho hj hr f3
          obtain ⟨k1, k2, k3, k4, k5, k6, k7, k8, k9⟩ := hg'
          refine ⟨V', hx, ?_⟩
          show ab_g E ((ab_load S [] o (.inl j) τ).1, S.2.1, (ab_load S [] o (.inl j) τ).2.2) V' lv st h n cs ss
          refine ⟨k1, ?_, k3, k4, k5, k6, k7, k8, k9⟩
          exact ab_stR_ext hx g2
      · exact hno
    · exact hno
end ENT
end
section
/-! ===== calls, over abstract states ===== -/
/-- what a call of a method comes to -/
def ab_M (l : Launch) (G : ax_T) (d : Nat) (mi : ax_MI) (as : List Value) (h : ax_H) (n : Nat) (o : ax_O) : Prop := ax_Met l G mi.2.1 mi.2.2.1 mi.2.2.2.1 mi.2.2.2.2.1 d as (ax_hget h) n o.1 (ax_hget o.2.1) o.2.2 mi.2.2.2.2.2.2.1 mi.2.2.2.2.2.2.2.1 ∧ (mi.2.2.2.2.1 = none → o.1 = none)
/-- a contract: method, depth, what is told ahead, what may change, what is told behind -/
abbrev ab_Q : Type := Nat × Nat × ab_S × List (Nat × Int) × List ab_S
def ab_QOk (l : Launch) (G : ax_T) (prog : List ax_MI) (Q : ab_Q) : Prop := ∀ (mi : ax_MI), prog[Q.1]? = some mi → ∀ (d : Nat), Q.2.1 ≤ d → ∀ (V as : List Value) (h : ax_H) (n : Nat), (lg_sl as).length ≤ mi.2.2.2.1 → ab_g (V, h, n, Q.2.2.2.1) Q.2.2.1 V (lv_args 0 as) [] h n 0 0 →
  ∃ o, ab_M l G d mi as h n o ∧ ∃ P ∈ Q.2.2.2.2, ∃ V' cs ss, ab_g (V, h, n, Q.2.2.2.1) P V' [] o.1.toList o.2.1 o.2.2 cs ss
theorem ab_stR_iff {V : List Value} : ∀ {L : List ab_V} {st : List Value}, ab_stR V L st ↔ L.map (ab_cv V) = st.map some
  | [], [] => ⟨fun _ => rfl, fun _ => trivial⟩
  | a :: L, v :: st => by
    simp only [ab_stR, List.map_cons, List.cons.injEq]
    rw [ab_stR_iff (L := L) (st := st)]
  | [], _ :: _ => ⟨fun h => h.elim, fun h => by simp at h⟩
  | _ :: _, [] => ⟨fun h => h.elim, fun h => by simp at h⟩
theorem ab_stR_len {V : List Value} {L : List ab_V} {st : List Value} (h : ab_stR V L st) : L.length = st.length := by
  have := congrArg List.length (ab_stR_iff.mp h)
  simpa using this
def ab_args (Γ : List ab_Y) : Nat → List ab_V → List (Nat × ab_V)
  | _, [] => []
  | i, a :: vs => (i, a) :: ab_args Γ (i + ab_ct Γ a) vs
theorem ab_ct12 (Γ : List ab_Y) (a : ab_V) : ab_ct Γ a = 1 ∨ ab_ct Γ a = 2 := by
  unfold ab_ct
  split
  · split
    · exact Or.inr rfl
    · exact Or.inl rfl
  · exact Or.inl rfl
theorem ab_args_ok {n : Nat} {V : List Value} {Γ : List ab_Y} (hΓ : ab_ty n V Γ) : ∀ {vs : List ab_V} {as : List Value} (i : Nat), ab_stR V vs as → ab_lvR V (ab_args Γ i vs) (lv_args i as)
  | [], [], _, _ => fun k a hk => by cases hk
  | a :: vs, v :: as, i, h => by
    intro k b hk
    have hc := ab_ct_ok hΓ h.1
    have hi : (if v.category = 2 then i + 2 else i + 1) = i + ab_ct Γ a := by
      rw [hc]
      rcases ab_ct12 Γ a with e | e <;> rw [e] <;> rfl
    have ih := ab_args_ok hΓ (i + ab_ct Γ a) h.2
    unfold ab_args ab_lk at hk
    unfold lv_args ax_look
    rw [hi]
    rw [List.find?_cons] at hk ⊢
    rw [show ((i, v).1 == k) = Nat.beq i k from ab_nb i k]
    cases e : Nat.beq i k with
    | true =>
      rw [show Nat.beq (i, a).1 k = true from e] at hk
      cases hk
      exact ⟨v, rfl, h.1⟩
    | false =>
      rw [show Nat.beq (i, a).1 k = false from e] at hk
      exact ih k b hk
  | [], _ :: _, _, h => h.elim
  | _ :: _, [], _, h => h.elim
theorem ab_sl_sum : ∀ (as : List Value), (lg_sl as).length = ax_sum as
  | [] => rfl
  | v :: as => by
    have ih := ab_sl_sum as
    simp only [lg_sl, ax_sum, List.flatMap_cons, List.length_append, List.map_cons, List.sum_cons] at ih ⊢
    rw [ih]
    congr 1
    cases v <;> rfl
def ab_pop (k : Nat) (st : List ab_V) : Option (List ab_V × List ab_V) := bif Nat.ble k st.length then some ((st.take k).reverse, st.drop k) else none
theorem ab_pop_ok {V : List Value} {k : Nat} {L vs rest : List ab_V} {st : List Value} (h : ab_stR V L st) (hp : ab_pop k L = some (vs, rest)) : ∃ as rst, ax_pop k st = some (as, rst) ∧ ab_stR V vs as ∧ ab_stR V rest rst := by
  unfold ab_pop at hp
  obtain ⟨h1, h2⟩ := ab_bif hp
  cases h2
  refine ⟨(st.take k).reverse, st.drop k, ?_, ?_, ?_⟩
  · unfold ax_pop
    rw [← ab_stR_len h, h1]
    rfl
  · rw [ab_stR_iff, List.map_reverse, List.map_reverse, List.map_take, List.map_take, ab_stR_iff.mp h]
  · rw [ab_stR_iff, List.map_drop, List.map_drop, ab_stR_iff.mp h]
/-- which method, its arguments, the rest of the stack -/
def ab_inv (prog : List ax_MI) (i : Instr) (pe : ax_PE) (S : ab_S) : Option (Nat × ax_MI × List ab_V × List ab_V) := match i with
  | .invokestatic _ => bif Nat.beq pe.1 9 then none else match prog[pe.2.1]? with
    | some mi => (match ab_pop mi.2.2.2.2.2.1 S.2.1 with
      | some (vs, rest) => bif Nat.ble (ab_sum S.2.2.1 rest) 8 then some (pe.2.1, mi, vs, rest) else none
      | none => none)
    | none => none
  | .invokevirtual _ => match prog[pe.2.1]? with
    | some mi => (match ab_pop mi.2.2.2.2.2.1 S.2.1 with
      | some (vs, a :: rest) => (match ab_mo S.2.2.1 a with
        | some M => (match ab_ftj M 0 with
          | some τ => bif ab_fck M pe.2.2.1 0 τ && Nat.ble (ab_sum S.2.2.1 rest) 8 then some (pe.2.1, mi, a :: vs, rest) else none
          | none => none)
        | none => none)
      | _ => none)
    | none => none
  | _ => none
section CAL
variable {E : ab_E} {S : ab_S} {V : List Value} {lv : List (Nat × Value)} {st : List Value} {h : ax_H} {n cs ss : Nat} {pe : ax_PE} {prog : List ax_MI} {l : Launch} {G : ax_T}
theorem ab_inv_ok (hg : ab_g E S V lv st h n cs ss) {i : Instr} {j : Nat} {mi : ax_MI} {vs rest : List ab_V} (hi : ab_inv prog i pe S = some (j, mi, vs, rest)) : prog[j]? = some mi ∧ ∃ as rst, ax_inv prog i pe st h = some (mi, as, rst) ∧ ab_stR V vs as ∧ ab_stR V rest rst := by
  obtain ⟨g1, g2, g3, g4, g5, g6, g7, g8, g9⟩ := hg
  cases i with
  | invokestatic idx =>
    simp only [ab_inv] at hi
    cases e0 : Nat.beq pe.1 9 with
    | true => rw [e0] at hi; cases hi
    | false =>
      rw [e0] at hi
      simp only [cond_false] at hi
      split at hi
      · rename_i mi' hmi
        split at hi
        · rename_i vs' rest' hp
          obtain ⟨h1, h2⟩ := ab_bif hi
          cases h2
          obtain ⟨as, rst, f1, f2, f3⟩ := ab_pop_ok g2 hp
          refine ⟨hmi, as, rst, ?_, f2, f3⟩
          have e1 : (pe.1 == 9) = false := by rw [ab_nb]; exact e0
          simp only [ax_inv, e1, cond_false, hmi, f1]
          rw [ab_sum_ok g3 f3, h1]
          rfl
        · cases hi
      · cases hi
  | invokevirtual idx =>
    simp only [ab_inv] at hi
    split at hi
    · rename_i mi' hmi
      split at hi
      · rename_i vs' a rest' hp
        split at hi
        · rename_i M hM
          split at hi
          · rename_i τ hτ
            obtain ⟨h1, h2⟩ := ab_bif hi
            cases h2
            simp only [Bool.and_eq_true] at h1
            obtain ⟨as, rst, f1, f2, f3⟩ := ab_pop_ok g2 hp
            match rst, f3 with
            | [], f3 => exact f3.elim
            | v :: rst, f3 =>
              obtain ⟨k, rfl, hk, hMk⟩ := ab_mo_ok g8.1.1 g3 hM f3.1
              obtain ⟨fs, w, q1, -⟩ := ab_fck_ok g8.1 hMk hk h1.1
              refine ⟨hmi, .ref k :: as, rst, ?_, ⟨f3.1, f2⟩, f3.2⟩
              simp only [ax_inv, hmi, f1, q1, beq_self_eq_true]
              rw [ab_sum_ok g3 f3.2, h1.2]
              rfl
          · cases hi
        · cases hi
      · cases hi
    · cases hi
  | _ => cases hi
/-- may a place of cells of some kinds change -/
def ab_hit1 (M : Nat) (i : ab_V) (q : Nat × Int) : Bool := !(Nat.beq (q.1 &&& M) 0) && (bif decide (q.2 = -2) then !(ab_veq i (.inl (-1))) else match i with
  | .inl c => decide (c = q.2)
  | _ => true)
def ab_hit (md : List (Nat × Int)) (M : Nat) (i : ab_V) : Bool := md.any (ab_hit1 M i)
theorem ab_hit1_ok {M κ : Nat} {i : ab_V} {x : Int32} {q : Nat × Int} (hh : ab_hit1 M i q = false) (hM : M.testBit κ = true) (hi : ab_cv V i = some (.int x)) (hc1 : Nat.testBit q.1 κ = true) (hc2 : q.2 = x.toInt ∨ q.2 = -2 ∧ 0 ≤ x.toInt) : False := by
  have h0 : (q.1 &&& M).testBit κ = true := by rw [Nat.testBit_and, hc1, hM]; rfl
  have h1 : Nat.beq (q.1 &&& M) 0 = false := by
    rw [Bool.eq_false_iff]
    intro he
    have he' : q.1 &&& M = 0 := by simpa [Nat.beq_eq] using he
    rw [he'] at h0
    simp at h0
  unfold ab_hit1 at hh
  rw [h1] at hh
  simp only [Bool.not_false, Bool.true_and] at hh
  by_cases e : q.2 = -2
  · rw [decide_eq_true e] at hh
    simp only [cond_true, Bool.not_eq_false'] at hh
    have hv' := ab_veq_ok hh
    rw [hv'] at hi
    have hx : x = Int32.ofInt (-1) := by
      have h3 : some (Value.int (Int32.ofInt (-1))) = some (.int x) := hi
      cases h3; rfl
    have h4 : x.toInt = -1 := by rw [hx]; rfl
    omega
  · rw [decide_eq_false e] at hh
    simp only [cond_false] at hh
    rcases i with c | i
    · simp only [ab_cv] at hi
      cases er : ab_rng c with
      | false => rw [er] at hi; cases hi
      | true =>
        rw [er] at hi
        cases hi
        rw [ab_rng_ok er] at hc2
        have h5 : ¬ c = q.2 := of_decide_eq_false hh
        omega
    · cases hh
theorem ab_hit_ok {md : List (Nat × Int)} {M κ : Nat} {i : ab_V} {x : Int32} (hh : ab_hit md M i = false) (hM : M.testBit κ = true) (hi : ab_cv V i = some (.int x)) : ab_md md κ x.toInt = false := by
  rw [Bool.eq_false_iff]
  intro hm
  obtain ⟨q, hq, hc⟩ := List.any_eq_true.mp hm
  simp only [Bool.and_eq_true, Bool.or_eq_true, decide_eq_true_eq] at hc
  refine ab_hit1_ok (q := q) (M := M) ?_ hM hi hc.1 hc.2
  rw [Bool.eq_false_iff]
  intro hx
  exact Bool.eq_false_iff.mp hh (List.any_eq_true.mpr ⟨q, hq, hx⟩)
def ab_keepF (md : List (Nat × Int)) (Γ : List ab_Y) (F : List (ab_V × ab_V × ab_V)) : List (ab_V × ab_V × ab_V) := F.filter fun q => match ab_mo Γ q.1 with
  | some M => !(ab_hit md M q.2.1)
  | none => (ab_iv Γ q.1).isSome
def ab_keepZ (md : List (Nat × Int)) (Γ : List ab_Y) (Z : List (ab_V × ab_V × ab_Y)) : List (ab_V × ab_V × ab_Y) := Z.filter fun z => match ab_mo Γ z.1 with
  | some M => md.all fun q => Nat.beq (q.1 &&& M) 0
  | none => false
theorem ab_keepF_ok {md : List (Nat × Int)} {Γ : List ab_Y} {F : List (ab_V × ab_V × ab_V)} {h' : ax_H} (hn : 573 ≤ n) (hΓ : ab_ty n V Γ) (hF : ab_ca V h F) (hfr : ab_fr md n h h') : ab_ca V h' (ab_keepF md Γ F) := fun q hq => by
  obtain ⟨hq1, hq2⟩ := List.mem_filter.mp hq
  rcases hF q hq1 with ⟨k, x, w, e1, e2, e3, e4⟩ | hs
  · refine Or.inl ⟨k, x, w, e1, e2, e3, ?_⟩
    split at hq2
    · rename_i M hM
      obtain ⟨k', e5, hk, hMk⟩ := ab_mo_ok hn hΓ hM e1
      cases e5
      rw [hfr k hk _ (ab_hit_ok (by simpa using hq2) hMk e2), e4]
    · cases e : ab_iv Γ q.1 with
      | none => rw [e] at hq2; cases hq2
      | some p =>
        obtain ⟨x, e5, -⟩ := ab_iv_ok hΓ e e1
        cases e5
  · exact Or.inr hs
theorem ab_keepZ_ok {md : List (Nat × Int)} {Γ : List ab_Y} {Z : List (ab_V × ab_V × ab_Y)} {h' : ax_H} {n' : Nat} (hn : 573 ≤ n) (hnn : n ≤ n') (hΓ : ab_ty n V Γ) (hZ : ab_sg n V h Z) (hfr : ab_fr md n h h') : ab_sg n' V h' (ab_keepZ md Γ Z) := fun z hz => by
  obtain ⟨hz1, hz2⟩ := List.mem_filter.mp hz
  obtain ⟨k, b, e1, e2, e3⟩ := hZ z hz1
  refine ⟨k, b, e1, e2, fun i h0 h1 => ?_⟩
  obtain ⟨w, f1, f2⟩ := e3 i h0 h1
  split at hz2
  · rename_i M hM
    obtain ⟨k', e5, hk, hMk⟩ := ab_mo_ok hn hΓ hM e1
    cases e5
    refine ⟨w, ?_, ab_ok_mono hnn f2⟩
    rw [hfr k hk i, f1]
    rw [Bool.eq_false_iff]
    intro hm
    obtain ⟨q, hq, hc⟩ := List.any_eq_true.mp hm
    simp only [Bool.and_eq_true] at hc
    have h2 := List.all_eq_true.mp hz2 q hq
    have h3 : q.1 &&& M = 0 := by simpa [Nat.beq_eq] using h2
    have h4 : (q.1 &&& M).testBit (ab_k k) = true := by rw [Nat.testBit_and, hc.1, hMk]; rfl
    rw [h3] at h4
    simp at h4
  · cases hz2
def ab_smd (md' md : List (Nat × Int)) : Bool := md'.all fun q => md.any fun r => decide (q.2 = r.2) && Nat.beq (q.1 &&& r.1) q.1
theorem ab_smd_ok {md' md : List (Nat × Int)} (hs : ab_smd md' md = true) {κ : Nat} {i : Int} (hm : ab_md md κ i = false) : ab_md md' κ i = false := by
  rw [Bool.eq_false_iff] at hm ⊢
  intro h1
  apply hm
  obtain ⟨q, hq, hc⟩ := List.any_eq_true.mp h1
  obtain ⟨r, hr, hd⟩ := List.any_eq_true.mp (List.all_eq_true.mp hs q hq)
  simp only [Bool.and_eq_true, decide_eq_true_eq, Nat.beq_eq] at hc hd
  refine List.any_eq_true.mpr ⟨r, hr, ?_⟩
  simp only [Bool.and_eq_true]
  have h2 : (q.1 &&& r.1).testBit κ = true := by rw [hd.2]; exact hc.1
  rw [Nat.testBit_and, Bool.and_eq_true] at h2
  exact ⟨h2.2, by rw [← hd.1]; exact hc.2⟩
/-- bounds of what there was, by types told behind -/
def ab_rf : List ab_V → List ab_Y → List ab_Y → Option (List ab_Y)
  | a :: σ, τ :: Δ, Γ => (match τ with
    | .inl (lo, hi, f) => (match ab_lim Γ a lo hi with
      | some Γ' => ab_rf σ Δ (bif Nat.beq f 3 then ab_f3 Γ' a else Γ')
      | none => none)
    | .inr _ => ab_rf σ Δ Γ)
  | _, _, Γ => some Γ
theorem ab_rf_ok : ∀ (σ : List ab_V) (Δ Γ : List ab_Y), ab_ty n V Γ → (∀ (u : Nat) (a : ab_V) (τ : ab_Y), σ[u]? = some a → Δ[u]? = some τ → ∃ w, ab_cv V a = some w ∧ ab_ok n w τ) → ∃ Γ', ab_rf σ Δ Γ = some Γ' ∧ ab_ty n V Γ'
  | [], _, Γ, hΓ, _ => ⟨Γ, by unfold ab_rf; rfl, hΓ⟩
  | a :: σ, [], Γ, hΓ, _ => ⟨Γ, by unfold ab_rf; rfl, hΓ⟩
  | a :: σ, τ :: Δ, Γ, hΓ, hh => by
    have ht : ∀ (u : Nat) (a : ab_V) (τ : ab_Y), σ[u]? = some a → Δ[u]? = some τ → ∃ w, ab_cv V a = some w ∧ ab_ok n w τ := fun u b ρ hb hρ => hh (u + 1) b ρ (by simpa using hb) (by simpa using hρ)
    obtain ⟨w, hw, hok⟩ := hh 0 a τ rfl rfl
    rcases τ with ⟨lo, hi, f⟩ | τ
    · obtain ⟨x, rfl, h1, h2, h3⟩ := hok
      obtain ⟨Γ', e1, e2⟩ := ab_lim_ok hΓ hw h1 h2
      simp only [ab_rf, e1]
      cases ef : Nat.beq f 3 with
      | false => exact ab_rf_ok σ Δ Γ' e2 ht
      | true =>
        have : f = 3 := by simpa [Nat.beq_eq] using ef
        subst this
        exact ab_rf_ok σ Δ _ (ab_f3_ok e2 hw h3) ht
    · simp only [ab_rf]
      exact ab_rf_ok σ Δ Γ hΓ ht
end CAL
end
section
/-! ===== a call by its contract ===== -/
def ab_so (σ : List (Option ab_V)) : ab_V → Option ab_V
  | .inr (.inl u) => (σ[u]?).getD none
  | .inl c => some (.inl c)
  | .inr (.inr a) => some (.inr (.inr a))
def ab_a1 (σ : List (Option ab_V)) (v v' : ab_V) : List (Option ab_V) := match v with
  | .inr (.inl u) => (match σ[u]? with
    | some none => σ.set u (some v')
    | _ => σ)
  | _ => σ
def ab_gh1 (S : ab_S) (o i : ab_V) : ab_S := match i with
  | .inl (.ofNat j) => ab_gho S o j
  | _ => S
/-- symbols found by what cells hold -/
def ab_mF : List (ab_V × ab_V × ab_V) → List (Option ab_V) → ab_S → ab_S × List (Option ab_V)
  | [], σ, S => (S, σ)
  | q :: F, σ, S => match ab_so σ q.1, ab_so σ q.2.1 with
    | some o, some i => (match ab_fd (ab_gh1 S o i).2.2.2.2.1 o i with
      | some v => ab_mF F (ab_a1 σ q.2.2 v) (ab_gh1 S o i)
      | none => ab_mF F σ (ab_gh1 S o i))
    | _, _ => ab_mF F σ S
def ab_mL (S : ab_S) : List (Nat × ab_V) → List (Option ab_V) → List (Option ab_V)
  | [], σ => σ
  | q :: L, σ => ab_mL S L (match ab_lk S.1 q.1 with
    | some b => ab_a1 σ q.2 b
    | none => σ)
def ab_mS : List ab_V → List ab_V → List (Option ab_V) → List (Option ab_V)
  | a :: L, b :: M, σ => ab_mS L M (ab_a1 σ a b)
  | _, _, σ => σ
def ab_mt (n0 : Nat) (S T : ab_S) : ab_S × List (Option ab_V) :=
  ab_mF T.2.2.2.2.1 (ab_mS T.2.1 S.2.1 (ab_mL S T.1 ((List.range T.2.2.1.length).map fun u => bif Nat.blt u n0 then some (ab_symV u) else none))) S
def ab_fi2 (p : ab_S × List (Option ab_V)) : ab_S × List ab_V := (p.1, p.2.map fun o => o.getD (.inl 0))
/-- S, with some places read, is as T says -/
def ab_fit (n0 : Nat) (S T : ab_S) : Option (ab_S × List ab_V) := match ab_fi2 (ab_mt n0 S T) with
  | (S', σ) => bif ab_self σ n0 && ab_ent S' T σ then some (S', σ) else none
section CQ
variable {E : ab_E} {S : ab_S} {V : List Value} {lv : List (Nat × Value)} {st : List Value} {h : ax_H} {n cs ss : Nat} {prog : List ax_MI} {l : Launch} {G : ax_T}
theorem ab_ext_trans {V V' V'' : List Value} (h1 : ab_ext V V') (h2 : ab_ext V' V'') : ab_ext V V'' := fun u v hu => h2 u v (h1 u v hu)
theorem ab_gh1_ok (hg : ab_g E S V lv st h n cs ss) (o i : ab_V) : ∃ V', ab_ext V V' ∧ ab_g E (ab_gh1 S o i) V' lv st h n cs ss := by
  unfold ab_gh1
  split
  · exact ab_gho_ok hg o _
  · exact ⟨V, ab_ext_refl V, hg⟩
theorem ab_mF_ok : ∀ (F : List (ab_V × ab_V × ab_V)) (σ : List (Option ab_V)) (S : ab_S) (V : List Value), ab_g E S V lv st h n cs ss → ∃ V', ab_ext V V' ∧ ab_g E (ab_mF F σ S).1 V' lv st h n cs ss
  | [], σ, S, V, hg => ⟨V, ab_ext_refl V, hg⟩
  | q :: F, σ, S, V, hg => by
    unfold ab_mF
    split
    · rename_i o i _ _
      obtain ⟨V1, x1, hg1⟩ := ab_gh1_ok hg o i
      split
      · obtain ⟨V2, x2, hg2⟩ := ab_mF_ok F _ _ V1 hg1
        exact ⟨V2, ab_ext_trans x1 x2, hg2⟩
      · obtain ⟨V2, x2, hg2⟩ := ab_mF_ok F _ _ V1 hg1
        exact ⟨V2, ab_ext_trans x1 x2, hg2⟩
    · exact ab_mF_ok F _ _ V hg
theorem ab_fit_ok (hg : ab_g E S V lv st h n cs ss) {n0 : Nat} {T S' : ab_S} {σ : List ab_V} (hf : ab_fit n0 S T = some (S', σ)) : ∃ V', ab_ext V V' ∧ ab_g E S' V' lv st h n cs ss ∧ ab_ent S' T σ = true ∧ ab_self σ n0 = true := by
  obtain ⟨V', x, hg'⟩ := ab_mF_ok T.2.2.2.2.1 (ab_mS T.2.1 S.2.1 (ab_mL S T.1 ((List.range T.2.2.1.length).map fun u => bif Nat.blt u n0 then some (ab_symV u) else none))) S V hg
  have hf' : (bif ab_self (ab_fi2 (ab_mt n0 S T)).2 n0 && ab_ent (ab_fi2 (ab_mt n0 S T)).1 T (ab_fi2 (ab_mt n0 S T)).2 then some ((ab_fi2 (ab_mt n0 S T)).1, (ab_fi2 (ab_mt n0 S T)).2) else none) = some (S', σ) := hf
  obtain ⟨h1, h2⟩ := ab_bif hf'
  cases h2
  simp only [Bool.and_eq_true] at h1
  exact ⟨V', x, hg', h1.2, h1.1⟩
/-- and so the template holds -/
theorem ab_fit_g (hg : ab_g E S V lv st h n cs ss) {n0 : Nat} (hl : E.1.length ≤ n0) {T S' : ab_S} {σ : List ab_V} (hf : ab_fit n0 S T = some (S', σ)) : ∃ V', ab_ext V V' ∧ ab_g E S' V' lv st h n cs ss ∧ ab_g E T (ab_vl V' σ) lv st h n cs ss := by
  obtain ⟨V', x, h1, h2, h3⟩ := ab_fit_ok hg hf
  exact ⟨V', x, h1, ab_ent_ok h1 h2 (ab_self_ok h3 hl h1.2.2.2.2.2.2.2.2)⟩
def ab_sbL (g : List ab_V) : List ab_V → Option (List ab_V)
  | [] => some []
  | a :: L => match ab_sb g a, ab_sbL g L with
    | some b, some M => some (b :: M)
    | _, _ => none
theorem ab_sbL_ok {g : List ab_V} {V1 V2 : List Value} (hm : ∀ a b w, ab_sb g a = some b → ab_cv V1 a = some w → ab_cv V2 b = some w) : ∀ {L M : List ab_V} {st : List Value}, ab_sbL g L = some M → ab_stR V1 L st → ab_stR V2 M st
  | [], M, [], hs, _ => by cases hs; trivial
  | [], _, _ :: _, _, hr => hr.elim
  | a :: L, M, [], _, hr => hr.elim
  | a :: L, M, v :: st, hs, hr => by
    unfold ab_sbL at hs
    split at hs
    · rename_i b M' hb hM
      cases hs
      exact ⟨hm a b v hb hr.1, ab_sbL_ok hm hM hr.2⟩
    · cases hs
def ab_sb3 (g : List ab_V) (q : ab_V × ab_V × ab_V) : Option (ab_V × ab_V × ab_V) := match ab_sb g q.1, ab_sb g q.2.1, ab_sb g q.2.2 with
  | some a, some b, some c => some (a, b, c)
  | _, _, _ => none
def ab_sbZ (g : List ab_V) (z : ab_V × ab_V × ab_Y) : Option (ab_V × ab_V × ab_Y) := match ab_sb g z.1, ab_sb g z.2.1 with
  | some a, some b => some (a, b, z.2.2)
  | _, _ => none
def ab_sbC (g : List ab_V) (q : Nat × Nat × Int) : List (Nat × Nat × Int) := match g[q.1]?, g[q.2.1]? with
  | some a, some b => ab_dd a b q.2.2
  | _, _ => []
/-- a call's entry -/
def ab_en (S : ab_S) (vs : List ab_V) : ab_S := (ab_args S.2.2.1 0 vs, [], S.2.2.1, S.2.2.2.1, S.2.2.2.2.1, S.2.2.2.2.2.1, 0, 0)
/-- old and new symbols behind a call -/
def ab_gs (S1 : ab_S) (σ : List ab_V) (P : ab_S) : List ab_V := σ ++ (List.range (P.2.2.1.length - σ.length)).map fun j => ab_symV (S1.2.2.1.length + j)
/-- behind a call: what was known and stays, and what the contract tells; some none: it can't be -/
def ab_bh (md : List (Nat × Int)) (S S1 : ab_S) (σ rest : List ab_V) (mc ms : Nat) (P : ab_S) : Option (Option ab_S) := match ab_sbL (ab_gs S1 σ P) P.2.1 with
  | some ans => bif Nat.ble σ.length P.2.2.1.length then some (match ab_rf σ P.2.2.1 (S1.2.2.1 ++ P.2.2.1.drop σ.length) with
      | some Γ => some (S.1, ans ++ rest, Γ, (P.2.2.2.1.flatMap (ab_sbC (ab_gs S1 σ P))) ++ S1.2.2.2.1, (P.2.2.2.2.1.filterMap (ab_sb3 (ab_gs S1 σ P))) ++ ab_keepF md S1.2.2.1 S1.2.2.2.2.1, (P.2.2.2.2.2.1.filterMap (ab_sbZ (ab_gs S1 σ P))) ++ ab_keepZ md S1.2.2.1 S1.2.2.2.2.2.1, S.2.2.2.2.2.2.1 + mc, S.2.2.2.2.2.2.2 + ms)
      | none => none) else none
  | none => none
def ab_pl (f : ab_S → Option (Option ab_S)) : List ab_S → Option (List ab_S)
  | [] => some []
  | P :: Ps => match f P, ab_pl f Ps with
    | some (some R), some L => some (R :: L)
    | some none, some L => some L
    | _, _ => none
theorem ab_pl_in {f : ab_S → Option (Option ab_S)} {P : ab_S} : ∀ {Ps L : List ab_S}, ab_pl f Ps = some L → P ∈ Ps → ∃ r, f P = some r ∧ ∀ R, r = some R → R ∈ L
  | [], _, _, hP => by cases hP
  | Q :: Ps, L, hs, hP => by
    unfold ab_pl at hs
    split at hs
    · rename_i R L' hR hL
      cases hs
      rcases List.mem_cons.mp hP with rfl | hP
      · exact ⟨_, hR, fun R' h' => by cases h'; exact List.mem_cons_self⟩
      · obtain ⟨r, h1, h2⟩ := ab_pl_in hL hP
        exact ⟨r, h1, fun R' h' => List.mem_cons_of_mem _ (h2 R' h')⟩
    · rename_i L' hR hL
      cases hs
      rcases List.mem_cons.mp hP with rfl | hP
      · exact ⟨_, hR, fun R' h' => by cases h'⟩
      · exact ab_pl_in hL hP
    · cases hs
def ab_cq (md : List (Nat × Int)) (Q : ab_Q) (mi : ax_MI) (S : ab_S) (vs rest : List ab_V) : Option (List ab_S) :=
  bif Nat.ble (ab_sum S.2.2.1 vs) mi.2.2.2.1 && ab_smd Q.2.2.2.1 md then (match ab_fit 0 (ab_en S vs) Q.2.2.1 with
    | some q => ab_pl (ab_bh Q.2.2.2.1 S q.1 q.2 rest mi.2.2.2.2.2.2.1 mi.2.2.2.2.2.2.2.1) Q.2.2.2.2
    | none => none) else none
theorem ab_en_ok (hg : ab_g E S V lv st h n cs ss) {vs : List ab_V} {as : List Value} (hv : ab_stR V vs as) (md : List (Nat × Int)) : ab_g (V, h, n, md) (ab_en S vs) V (lv_args 0 as) [] h n 0 0 := by
  obtain ⟨g1, g2, g3, g4, g5, g6, g7, g8, g9⟩ := hg
  exact ⟨ab_args_ok g3 0 hv, trivial, g3, g4, g5, g6, ⟨rfl, rfl⟩, ⟨g8.1, fun k _ i _ => rfl, Nat.le_refl _⟩, fun u v hu => hu⟩
theorem ab_ty_mono {n n' : Nat} (hn : n ≤ n') {V : List Value} {Γ : List ab_Y} (h : ab_ty n V Γ) : ab_ty n' V Γ := ⟨h.1, fun u τ hu => by
  obtain ⟨v, h1, h2⟩ := h.2 u τ hu
  exact ⟨v, h1, ab_ok_mono hn h2⟩⟩
theorem ab_ty_two {n : Nat} {V W : List Value} {Γ Δ : List ab_Y} (h1 : ab_ty n V Γ) (h2 : ab_ty n W Δ) : ab_ty n (V ++ W) (Γ ++ Δ) := by
  refine ⟨by simp [h1.1, h2.1], fun u τ hu => ?_⟩
  by_cases hl : u < Γ.length
  · rw [List.getElem?_append_left hl] at hu
    obtain ⟨v, e1, e2⟩ := h1.2 u τ hu
    exact ⟨v, by rw [List.getElem?_append_left (by rw [h1.1]; exact hl)]; exact e1, e2⟩
  · rw [List.getElem?_append_right (by omega)] at hu
    obtain ⟨v, e1, e2⟩ := h2.2 _ τ hu
    exact ⟨v, by rw [List.getElem?_append_right (by rw [h1.1]; omega), h1.1]; exact e1, e2⟩
theorem ab_ty_drop {n : Nat} {V : List Value} {Γ : List ab_Y} (h : ab_ty n V Γ) (k : Nat) : ab_ty n (V.drop k) (Γ.drop k) := by
  refine ⟨by simp [h.1], fun u τ hu => ?_⟩
  rw [List.getElem?_drop] at hu ⊢
  exact h.2 _ τ hu
theorem ab_gs_ok {S1 P : ab_S} {σ : List ab_V} {V1 V' : List Value} (hσ : ab_all V1 σ) (hl1 : V1.length = S1.2.2.1.length) (hl2 : V'.length = P.2.2.1.length) (hx : ∀ (u : Nat) (v : Value), (ab_vl V1 σ)[u]? = some v → V'[u]? = some v) : ∀ a b w, ab_sb (ab_gs S1 σ P) a = some b → ab_cv V' a = some w → ab_cv (V1 ++ V'.drop σ.length) b = some w := by
  intro a b w hs hw
  rcases a with c | (u | (k | j))
  · cases hs; exact hw
  · have hs' : (ab_gs S1 σ P)[u]? = some b := hs
    have hw' : V'[u]? = some w := hw
    unfold ab_gs at hs'
    by_cases hu : u < σ.length
    · rw [List.getElem?_append_left hu] at hs'
      obtain ⟨w', hb⟩ := hσ b (List.mem_of_getElem? hs')
      have h1 : (ab_vl V1 σ)[u]? = some w' := by rw [ab_vl, List.getElem?_map, hs']; simp [hb]
      have h2 := hx u w' h1
      rw [hw'] at h2
      cases h2
      exact ab_cv_app _ hb
    · rw [List.getElem?_append_right (by omega), List.getElem?_map] at hs'
      have hlt : u - σ.length < P.2.2.1.length - σ.length := by
        have := (List.getElem?_eq_some_iff.mp hw').1
        omega
      rw [List.getElem?_range hlt] at hs'
      cases hs'
      show (V1 ++ V'.drop σ.length)[S1.2.2.1.length + (u - σ.length)]? = some w
      rw [List.getElem?_append_right (by omega), List.getElem?_drop, hl1]
      rw [show σ.length + (S1.2.2.1.length + (u - σ.length) - S1.2.2.1.length) = u by omega]
      exact hw'
  · cases hs; exact hw
  · cases hs; exact hw
theorem ab_stR_two {V : List Value} {L M : List ab_V} {s t : List Value} (h1 : ab_stR V L s) (h2 : ab_stR V M t) : ab_stR V (L ++ M) (s ++ t) := by
  rw [ab_stR_iff, List.map_append, List.map_append, ab_stR_iff.mp h1, ab_stR_iff.mp h2]
theorem ab_bh_ok (hg : ab_g E S V lv st h n cs ss) {rest : List ab_V} {rst : List Value} (hr : ab_stR V rest rst) {md : List (Nat × Int)} (hmd : ab_smd md E.2.2.2 = true) {S1 : ab_S} {V1 : List Value} {lv' : List (Nat × Value)} (hx : ab_ext V V1) (hg1 : ab_g (V, h, n, md) S1 V1 lv' [] h n 0 0) {σ : List ab_V} (hσ : ab_all V1 σ) {P : ab_S} {V' : List Value} {o : ax_O} {c' s' : Nat} (hp : ab_g (ab_vl V1 σ, h, n, md) P V' [] o.1.toList o.2.1 o.2.2 c' s') {mc ms : Nat} {r : Option ab_S} (hb : ab_bh md S S1 σ rest mc ms P = some r) :
    ∃ R, r = some R ∧ ∃ V'', ab_g E R V'' lv (o.1.toList ++ rst) o.2.1 o.2.2 (cs + mc) (ss + ms) := by
  obtain ⟨g1, g2, g3, g4, g5, g6, g7, g8, g9⟩ := hg
  obtain ⟨k1, k2, k3, k4, k5, k6, k7, k8, k9⟩ := hg1
  obtain ⟨p1, p2, p3, p4, p5, p6, p7, p8, p9⟩ := hp
  have hnn : n ≤ o.2.2 := p8.2.2
  have hfr : ab_fr md n h o.2.1 := p8.2.1
  have hm := ab_gs_ok (P := P) hσ k3.1 p3.1 p9
  unfold ab_bh at hb
  split at hb
  · rename_i ans hans
    obtain ⟨hle, hb2⟩ := ab_bif hb
    cases hb2
    have hle' : σ.length ≤ P.2.2.1.length := by simpa [Nat.ble_eq] using hle
    have hty : ab_ty o.2.2 (V1 ++ V'.drop σ.length) (S1.2.2.1 ++ P.2.2.1.drop σ.length) := ab_ty_two (ab_ty_mono hnn k3) (ab_ty_drop p3 _)
    obtain ⟨Γ', e1, e2⟩ := ab_rf_ok σ P.2.2.1 _ hty (fun u a τ ha hτ => by
      obtain ⟨w, hw1, hw2⟩ := p3.2 u τ hτ
      refine ⟨w, hm (ab_symV u) a w ?_ hw1, hw2⟩
      show (ab_gs S1 σ P)[u]? = some a
      unfold ab_gs
      rw [List.getElem?_append_left (List.getElem?_eq_some_iff.mp ha).1]
      exact ha)
    rw [e1]
    refine ⟨_, rfl, V1 ++ V'.drop σ.length, ?_⟩
    have hxx : ab_ext V (V1 ++ V'.drop σ.length) := ab_ext_trans hx (ab_ext_app _ _)
    refine ⟨ab_lvR_ext hxx g1, ab_stR_two (ab_sbL_ok hm hans p2) (ab_stR_ext hxx hr), e2, ?_, ?_, ?_, ⟨by rw [g7.1], by rw [g7.2]⟩, ⟨p8.1, fun k hk i hi => ?_, Nat.le_trans g8.2.2 hnn⟩, fun u v hu => hxx u v (g9 u v hu)⟩
    · refine ab_co_two (fun q hq => ?_) (ab_co_app _ k4)
      obtain ⟨q0, hq0, hq⟩ := List.mem_flatMap.mp hq
      unfold ab_sbC at hq
      split at hq
      · rename_i a b ha hb'
        obtain ⟨x, y, f1, f2, f3⟩ := p4 q0 hq0
        exact ab_dd_ok (hm (ab_symV q0.1) a _ ha f1) (hm (ab_symV q0.2.1) b _ hb' f2) f3 q hq
      · cases hq
    · intro q hq
      rcases List.mem_append.mp hq with hq | hq
      · obtain ⟨q0, hq0, hq⟩ := List.mem_filterMap.mp hq
        unfold ab_sb3 at hq
        split at hq
        · rename_i a b c ha hb' hc
          cases hq
          rcases p5 q0 hq0 with ⟨k, x, w, f1, f2, f3, f4⟩ | ⟨x, y, z, f1, f2, f3, f4⟩
          · exact Or.inl ⟨k, x, w, hm _ _ _ ha f1, hm _ _ _ hb' f2, hm _ _ _ hc f3, f4⟩
          · exact Or.inr ⟨x, y, z, hm _ _ _ ha f1, hm _ _ _ hb' f2, hm _ _ _ hc f3, f4⟩
        · cases hq
      · exact ab_ca_app _ (ab_keepF_ok k8.1.1 k3 k5 hfr) q hq
    · intro z hz
      rcases List.mem_append.mp hz with hz | hz
      · obtain ⟨z0, hz0, hz⟩ := List.mem_filterMap.mp hz
        unfold ab_sbZ at hz
        split at hz
        · rename_i a b ha hb'
          cases hz
          obtain ⟨k, b0, f1, f2, f3⟩ := p6 z0 hz0
          exact ⟨k, b0, hm _ _ _ ha f1, hm _ _ _ hb' f2, f3⟩
        · cases hz
      · exact ab_sg_app _ (ab_keepZ_ok k8.1.1 hnn k3 k6 hfr) z hz
    · rw [hfr k (Nat.lt_of_lt_of_le hk g8.2.2) i (ab_smd_ok hmd hi)]
      exact g8.2.1 k hk i hi
  · cases hb
theorem ab_cq_ok {Q : ab_Q} (hQ : ab_QOk l G prog Q) {mi : ax_MI} (hmi : prog[Q.1]? = some mi) {d : Nat} (hd : Q.2.1 ≤ d) (hg : ab_g E S V lv st h n cs ss) {vs rest : List ab_V} {as rst : List Value} (hv : ab_stR V vs as) (hr : ab_stR V rest rst) {L : List ab_S} (hs : ab_cq E.2.2.2 Q mi S vs rest = some L) :
    ∃ o, ab_M l G d mi as h n o ∧ ∃ R ∈ L, ∃ V', ab_g E R V' lv (o.1.toList ++ rst) o.2.1 o.2.2 (cs + mi.2.2.2.2.2.2.1) (ss + mi.2.2.2.2.2.2.2.1) := by
  unfold ab_cq at hs
  obtain ⟨h1, h2⟩ := ab_bif hs
  simp only [Bool.and_eq_true, Nat.ble_eq] at h1
  split at h2
  · rename_i q hq
    obtain ⟨S1, σ⟩ := q
    have hc := ab_en_ok hg hv Q.2.2.2.1
    obtain ⟨V1, hx, hg1, he, -⟩ := ab_fit_ok hc hq
    have hσ : ab_all V1 σ := by
      unfold ab_ent at he
      simp only [Bool.and_eq_true] at he
      exact (ab_tyS_ok hg1.2.2.2.2.2.2.2.1.1.1 hg1.2.2.1 hg1.2.2.2.1 he.1).1
    have hpre := ab_ent_ok hg1 he (W := ab_vl V1 σ) (fun u v hu => hu)
    have hlen : (lg_sl as).length ≤ mi.2.2.2.1 := by
      rw [ab_sl_sum, ab_sum_ok hg.2.2.1 hv]
      exact h1.1
    obtain ⟨o, hM, P, hP, V', c', s', hp⟩ := hQ mi hmi d hd (ab_vl V1 σ) as h n hlen hpre
    obtain ⟨r, hr1, hr2⟩ := ab_pl_in h2 hP
    obtain ⟨R, hR, V'', hgR⟩ := ab_bh_ok hg hr h1.2 hx hg1 hσ hp hr1
    exact ⟨o, hM, R, hr2 R hR, V'', hgR⟩
  · cases h2
end CQ
end
section
/-! ===== ways through a method ===== -/
/-- from here the method returns o -/
def ab_Wd (l : Launch) (G : ax_T) (mi : ax_MI) (d : Nat) (o : ax_O) (F : ax_F) : Prop := ∀ (p : Program) (e : Env) (s : State) (m : MethodId) (args : Array Value) (below : List Frame) (meth : Method) (c : Code), ax_M G p s m args meth c mi.1 mi.2.2.1 mi.2.2.2.1 → meth.name = mi.2.1.name → meth.sig.returnType = mi.2.2.2.2.1 →
  ax_WF G p l e (ax_rm (d + 1) mi.2.2.2.2.2.2.1 mi.2.2.2.2.2.2.2.1) s m args below meth c (MQ below (ax_Qc G o.1 (ax_hget o.2.1) o.2.2) args s mi.2.2.2.2.2.2.1 mi.2.2.2.2.2.2.2.1 (fun q => G.2.1 ≤ q)) mi.2.2.2.1 F
section WD
variable {l : Launch} {G : ax_T} {prog : List ax_MI} {mi : ax_MI} {d : Nat} {o : ax_O} {pc : Nat} {lv : List (Nat × Value)} {st : List Value} {h : ax_H} {n cs ss : Nat} {en : ax_EN}
def ab_io (G : ax_T) (u : Nat) : Int × Int := ((G.2.2.2.1 u).toInt, (G.2.2.2.1 u).toInt)
theorem ab_at_ok (hprog : ax_Prog prog) (hmi : mi ∈ prog) (ha : ax_at mi.2.2.2.2.2.2.2.2 pc = some en) : ax_Ok prog mi.1 mi.2.1.name mi.2.2.1 pc en.2.1 en.2.2.1 en.2.2.2.1 := by
  obtain ⟨hpc, ch, hch, hen⟩ := ax_at_ok ha
  have := (hprog mi hmi).2.2.2 ch hch en hen
  rw [hpc] at this
  exact this
theorem ab_Wd_step (hprog : ax_Prog prog) (hmi : mi ∈ prog) (ha : ax_at mi.2.2.2.2.2.2.2.2 pc = some en) {F : ax_F} (hs : ax_step (ab_io G) mi.2.2.2.1 en.2.1 en.2.2.2.1 pc lv st h n cs ss = some F) (h1 : F.2.2.2.2.2.1 ≤ mi.2.2.2.2.2.2.1) (h2 : F.2.2.2.2.2.2 ≤ mi.2.2.2.2.2.2.2.1) (hW : ab_Wd l G mi d o F) : ab_Wd l G mi d o (pc, lv, st, h, n, cs, ss) := by
  intro p e s m args below meth c M hnm hrt
  exact ax_step_ok M hnm (iv := ab_io G) (fun u => ⟨Int.le_refl _, Int.le_refl _⟩) (ab_at_ok hprog hmi ha) hs ⟨h1, h2, Nat.le_add_left 1 d, by show 40 ≤ 40 * (d + 1); omega⟩ (hW p e s m args below meth c M hnm hrt)
theorem ab_Wd_inv (hprog : ax_Prog prog) (hmi : mi ∈ prog) (ha : ax_at mi.2.2.2.2.2.2.2.2 pc = some en) {q : ax_MI × List Value × List Value} (hq : ax_inv prog en.2.1 en.2.2.2.1 st h = some q) {o1 : ax_O} (hM : ab_M l G d q.1 q.2.1 h n o1) (h1 : cs + q.1.2.2.2.2.2.2.1 ≤ mi.2.2.2.2.2.2.1) (h2 : ss + q.1.2.2.2.2.2.2.2.1 ≤ mi.2.2.2.2.2.2.2.1)
    (hW : ab_Wd l G mi d o (pc + 3, lv, o1.1.toList ++ q.2.2, o1.2.1, o1.2.2, cs + q.1.2.2.2.2.2.2.1, ss + q.1.2.2.2.2.2.2.2.1)) : ab_Wd l G mi d o (pc, lv, st, h, n, cs, ss) := by
  intro p e s m args below meth c M hnm hrt
  exact ax_inv_ok hprog M (ab_at_ok hprog hmi ha) hq (fun _ => hM.1) (Nat.le_refl _) (Nat.le_refl _) h1 h2 (hW p e s m args below meth c M hnm hrt) hM.2
theorem ab_Wd_ret (hprog : ax_Prog prog) (hmi : mi ∈ prog) (ha : ax_at mi.2.2.2.2.2.2.2.2 pc = some en) {r : Option Value} (hr : ax_rets en.2.1 st = some r) (ht : ax_retT mi.2.2.2.2.1 r = true) (h1 : cs ≤ mi.2.2.2.2.2.2.1) (h2 : ss ≤ mi.2.2.2.2.2.2.2.1) : ab_Wd l G mi d (r, h, n) (pc, lv, st, h, n, cs, ss) := by
  intro p e s m args below meth c M hnm hrt
  have hok := ab_at_ok hprog hmi ha
  exact ax_ret_ok M hrt hok.1 hok.2.1 hr ht h1 h2
theorem ab_Wd_call (hprog : ax_Prog prog) (hmi : mi ∈ prog) {as : List Value} (hlen : (lg_sl as).length ≤ mi.2.2.2.1) (ht : ax_retT mi.2.2.2.2.1 o.1 = true) (hW : ab_Wd l G mi d o (0, lv_args 0 as, [], h, n, 0, 0)) : ab_M l G (d + 1) mi as h n o := by
  obtain ⟨hcal, hcls, hplain, -⟩ := hprog mi hmi
  refine ⟨?_, fun hn => ?_⟩
  · unfold ax_Met
    refine Met.ofW (cc := mi.2.2.1) (maxL := mi.2.2.2.1) (ret := mi.2.2.2.2.1) hplain rfl ?_
    intro p e s m args below meth c s₁ B hml hv
    obtain ⟨rfl, hX, hRel⟩ := hv
    have hts := atoms_spec (ws := Cond.code mi.2.1 mi.2.2.1 mi.2.2.2.1 mi.2.2.2.2.1 :: ax_G) B.pre
    have hown : s.vm.findClass mi.2.1.cls = some m.cls := findClass_of_methodNamed B.named
    have M : ax_M G p s m (as.map (ax_v G)).toArray meth c mi.1 mi.2.2.1 mi.2.2.2.1 := ⟨B.exec, B.bytes, hml, by rw [hcls]; exact hown, fun w hw => hts w (List.mem_cons_of_mem _ hw), B.notSynchronized, hX⟩
    have hl := lv_entry (as.map (ax_v G)) (n := mi.2.2.2.1) (by rw [ax_sl_len]; exact hlen)
    rw [lg_entry_eq]
    rw [ax_args_map] at hl
    exact hW p e s m _ below meth c M (name_of_methodNamed B.named B.method).1 B.returns _ s.heap [] hl hRel (fun q hq => by cases hq)
  · rw [hn] at ht
    cases e1 : o.1 with
    | none => rfl
    | some v => rw [e1] at ht; cases ht
end WD
/-- an outcome: a cut is reached, or the method returns -/
abbrev ab_OC : Type := (Nat × ab_S) ⊕ ab_S
/-- level, method's number, method, state, arguments, rest of the stack -/
abbrev ab_CL : Type := Nat → Nat → ax_MI → ab_S → List ab_V → List ab_V → Option (List ab_S)
def ab_bind {α β : Type} (f : α → Option (List β)) : List α → Option (List β)
  | [] => some []
  | a :: L => match f a, ab_bind f L with
    | some x, some y => some (x ++ y)
    | _, _ => none
theorem ab_bind_in {α β : Type} {f : α → Option (List β)} {a : α} : ∀ {L : List α} {M : List β}, ab_bind f L = some M → a ∈ L → ∃ x, f a = some x ∧ ∀ b ∈ x, b ∈ M
  | [], _, _, ha => by cases ha
  | c :: L, M, hs, ha => by
    unfold ab_bind at hs
    split at hs
    · rename_i x y hx hy
      cases hs
      rcases List.mem_cons.mp ha with rfl | ha
      · exact ⟨x, hx, fun b hb => List.mem_append_left _ hb⟩
      · obtain ⟨z, h1, h2⟩ := ab_bind_in hy ha
        exact ⟨z, h1, fun b hb => List.mem_append_right _ (h2 b hb)⟩
    · cases hs
/-- a symbol is a known number -/
def ab_rp (u : Nat) (c : Int) (a : ab_V) : ab_V := bif ab_veq a (ab_symV u) then .inl c else a
def ab_fix (S : ab_S) (u : Nat) (f : Nat) (c : Int) : ab_S := (S.1.map (fun q => (q.1, ab_rp u c q.2)), S.2.1, S.2.2.1.set u (.inl (c, c, f)), S.2.2.2.1, S.2.2.2.2.1.map (fun q => (q.1, q.2.1, ab_rp u c q.2.2)), S.2.2.2.2.2)
def ab_spk (f : Nat) (c : Int) : Bool := !(Nat.beq f 3) || ab_let.any fun z => decide (z = c)
def ab_spv (S : ab_S) (u : Nat) : Option (List ab_S) := match S.2.2.1[u]? with
  | some (.inl (lo, hi, f)) => bif decide (hi - lo ≤ 100) then some (((List.range ((hi - lo).toNat + 1)).filter fun (j : Nat) => ab_spk f (lo + (j : Int))).map fun (j : Nat) => ab_fix S u f (lo + (j : Int))) else some [S]
  | _ => none
def ab_spl (S : ab_S) (z : Nat ⊕ (Nat × Nat)) : Option (List ab_S) := match z with
  | .inl k => (match ab_lk S.1 k with
    | some (.inr (.inl u)) => ab_spv S u
    | _ => some [S])
  | .inr (k, j) => (match ab_fd (ab_gho S (.inr (.inr (.inl k))) j).2.2.2.2.1 (.inr (.inr (.inl k))) (.inl j) with
    | some (.inr (.inl u)) => ab_spv (ab_gho S (.inr (.inr (.inl k))) j) u
    | _ => some [ab_gho S (.inr (.inr (.inl k))) j])
def ab_sps (sp : List (Nat × (Nat ⊕ (Nat × Nat)))) (pc : Nat) (S : ab_S) : Option (List ab_S) := match sp.find? (fun q => Nat.beq q.1 pc) with
  | some q => ab_spl S q.2
  | none => some [S]
section SPL
variable {E : ab_E} {S : ab_S} {V : List Value} {lv : List (Nat × Value)} {st : List Value} {h : ax_H} {n cs ss : Nat}
theorem ab_rp_cv {u : Nat} {x : Int32} (hu : V[u]? = some (.int x)) (a : ab_V) : ab_cv V (ab_rp u x.toInt a) = ab_cv V a := by
  unfold ab_rp
  cases e : ab_veq a (ab_symV u) with
  | false => rfl
  | true =>
    have h1 := ab_veq_ok e
    subst h1
    have hr : ab_rng x.toInt = true := by
      rw [ab_rng_iff]
      have h1 := x.le_toInt
      have h2 := x.toInt_lt
      omega
    show (bif ab_rng x.toInt then some (Value.int (Int32.ofInt x.toInt)) else none) = V[u]?
    rw [hr, hu, Int32.ofInt_toInt]
    rfl
theorem ab_lk_map (f : ab_V → ab_V) (k : Nat) : ∀ (L : List (Nat × ab_V)), ab_lk (L.map fun q => (q.1, f q.2)) k = (ab_lk L k).map f
  | [] => rfl
  | q :: L => by
    have ih := ab_lk_map f k L
    unfold ab_lk at ih ⊢
    rw [List.map_cons, List.find?_cons, List.find?_cons]
    cases e : Nat.beq q.1 k with
    | true => simp only [e]; rfl
    | false => simp only [e]; exact ih
theorem ab_fix_ok (hg : ab_g E S V lv st h n cs ss) {u f : Nat} {lo hi : Int} (hu : S.2.2.1[u]? = some (.inl (lo, hi, f))) : ∃ x : Int32, lo ≤ x.toInt ∧ x.toInt ≤ hi ∧ ab_spk f x.toInt = true ∧ ab_g E (ab_fix S u f x.toInt) V lv st h n cs ss := by
  obtain ⟨g1, g2, g3, g4, g5, g6, g7, g8, g9⟩ := hg
  obtain ⟨w, hw, x, rfl, h1, h2, h3⟩ := g3.2 u _ hu
  have hk3 : ab_spk f x.toInt = true := by
    unfold ab_spk
    cases e : Nat.beq f 3 with
    | false => rfl
    | true =>
      have : f = 3 := by simpa [Nat.beq_eq] using e
      subst this
      have h4 : x.toInt ∈ ab_let := h3
      rw [List.any_eq_true.mpr ⟨x.toInt, h4, decide_eq_true rfl⟩]
      rfl
  refine ⟨x, h1, h2, hk3, fun k a hk => ?_, g2, ⟨?_, fun j τ hj => ?_⟩, g4, fun q hq => ?_, g6, g7, g8, g9⟩
  · have hk' : (ab_lk S.1 k).map (ab_rp u x.toInt) = some a := by rw [← ab_lk_map]; exact hk
    obtain ⟨b, hb, rfl⟩ := Option.map_eq_some_iff.mp hk'
    obtain ⟨v, e1, e2⟩ := g1 k b hb
    exact ⟨v, e1, by rw [ab_rp_cv hw]; exact e2⟩
  · show V.length = (S.2.2.1.set u _).length
    rw [List.length_set]; exact g3.1
  · have hj' : (S.2.2.1.set u (.inl (x.toInt, x.toInt, f)))[j]? = some τ := hj
    by_cases e : u = j
    · subst e
      have hlt : u < S.2.2.1.length := (List.getElem?_eq_some_iff.mp hu).1
      rw [List.getElem?_set_self hlt] at hj'
      cases hj'
      exact ⟨_, hw, x, rfl, Int.le_refl _, Int.le_refl _, h3⟩
    · rw [List.getElem?_set_ne e] at hj'
      exact g3.2 j τ hj'
  · obtain ⟨q0, hq0, rfl⟩ := List.mem_map.mp hq
    rcases g5 q0 hq0 with ⟨k, y, w, f1, f2, f3, f4⟩ | ⟨y, z, w, f1, f2, f3, f4⟩
    · exact Or.inl ⟨k, y, w, f1, f2, by rw [ab_rp_cv hw]; exact f3, f4⟩
    · exact Or.inr ⟨y, z, w, f1, f2, by rw [ab_rp_cv hw]; exact f3, f4⟩
theorem ab_spv_ok (hg : ab_g E S V lv st h n cs ss) {u : Nat} {L : List ab_S} (hs : ab_spv S u = some L) : ∃ R ∈ L, ab_g E R V lv st h n cs ss := by
  unfold ab_spv at hs
  split at hs
  · rename_i lo hi f hu
    cases e : decide (hi - lo ≤ 100) with
    | false =>
      rw [e] at hs
      cases hs
      exact ⟨S, List.mem_singleton.mpr rfl, hg⟩
    | true =>
      rw [e] at hs
      cases hs
      obtain ⟨x, h1, h2, hk, h3⟩ := ab_fix_ok hg hu
      have hx : lo + ((x.toInt - lo).toNat : Int) = x.toInt := by omega
      refine ⟨_, List.mem_map.mpr ⟨(x.toInt - lo).toNat, List.mem_filter.mpr ⟨List.mem_range.mpr (by omega), ?_⟩, rfl⟩, ?_⟩
      · rw [hx]; exact hk
      · rw [hx]; exact h3
  · cases hs
theorem ab_sps_ok (hg : ab_g E S V lv st h n cs ss) {sp : List (Nat × (Nat ⊕ (Nat × Nat)))} {pc : Nat} {L : List ab_S} (hs : ab_sps sp pc S = some L) : ∃ R ∈ L, ∃ V', ab_g E R V' lv st h n cs ss := by
  unfold ab_sps at hs
  split at hs
  · rename_i q hq
    obtain ⟨pc', z⟩ := q
    cases z with
    | inl k =>
      simp only [ab_spl] at hs
      split at hs
      · obtain ⟨R, h1, h2⟩ := ab_spv_ok hg hs
        exact ⟨R, h1, V, h2⟩
      · cases hs
        exact ⟨S, List.mem_singleton.mpr rfl, V, hg⟩
    | inr kj =>
      obtain ⟨k, j⟩ := kj
      obtain ⟨V', -, hg'⟩ := ab_gho_ok hg (.inr (.inr (.inl k))) j
      simp only [ab_spl] at hs
      split at hs
      · obtain ⟨R, h1, h2⟩ := ab_spv_ok hg' hs
        exact ⟨R, h1, V', h2⟩
      · cases hs
        exact ⟨_, List.mem_singleton.mpr rfl, V', hg'⟩
  · cases hs
    exact ⟨S, List.mem_singleton.mpr rfl, V, hg⟩
end SPL
end
section
/-! ===== all ways from a place of a method to its cuts and returns ===== -/
def ab_isr (i : Instr) : Bool := match i with
  | .ireturn => true
  | .lreturn => true
  | .return_ => true
  | _ => false
/-- what is returned -/
def ab_rtn (ret : Option FieldType) (i : Instr) (S : ab_S) : Option ab_S := match i, S.2.1, ret with
  | .ireturn, [a], some .int => (match ab_iv S.2.2.1 a with
    | some _ => some ([], [a], S.2.2.1, S.2.2.2.1, S.2.2.2.2.1, S.2.2.2.2.2.1, 0, 0)
    | none => none)
  | .ireturn, [a], some .boolean => (match ab_iv S.2.2.1 a with
    | some p => bif decide (0 ≤ p.1) && decide (p.2 ≤ 1) then some ([], [a], S.2.2.1, S.2.2.2.1, S.2.2.2.2.1, S.2.2.2.2.2.1, 0, 0) else none
    | none => none)
  | .lreturn, [a], some .long => (match ab_kd S.2.2.1 a with
    | some 2 => some ([], [a], S.2.2.1, S.2.2.2.1, S.2.2.2.2.1, S.2.2.2.2.2.1, 0, 0)
    | _ => none)
  | .return_, [], none => some ([], [], S.2.2.1, S.2.2.2.1, S.2.2.2.2.1, S.2.2.2.2.2.1, 0, 0)
  | _, _, _ => none
section RTN
variable {E : ab_E} {S : ab_S} {V : List Value} {lv : List (Nat × Value)} {st : List Value} {h : ax_H} {n cs ss : Nat}
theorem ab_rtn_g (hg : ab_g E S V lv st h n cs ss) {sa : List ab_V} {r : Option Value} (hs : ab_stR V sa r.toList) : ab_g E ([], sa, S.2.2.1, S.2.2.2.1, S.2.2.2.2.1, S.2.2.2.2.2.1, 0, 0) V [] r.toList h n 0 0 := by
  obtain ⟨g1, g2, g3, g4, g5, g6, g7, g8, g9⟩ := hg
  exact ⟨fun k a hk => (by cases hk), hs, g3, g4, g5, g6, ⟨rfl, rfl⟩, g8, g9⟩
theorem ab_rtn_ok (hg : ab_g E S V lv st h n cs ss) {ret : Option FieldType} {i : Instr} {R : ab_S} (hs : ab_rtn ret i S = some R) : ∃ r, ax_rets i st = some r ∧ ax_retT ret r = true ∧ ab_g E R V [] r.toList h n 0 0 := by
  have g2 := hg.2.1
  have g3 := hg.2.2.1
  unfold ab_rtn at hs
  split at hs
  · rename_i a e
    rw [e] at g2
    split at hs
    · rename_i p hp
      cases hs
      match st, g2 with
      | [v], g2 =>
        obtain ⟨x, rfl, -⟩ := ab_iv_ok g3 hp g2.1
        exact ⟨some (.int x), rfl, rfl, ab_rtn_g hg (r := some (.int x)) g2⟩
      | [], g2 => exact g2.elim
      | _ :: _ :: _, g2 => exact g2.2.elim
    · cases hs
  · rename_i a e
    rw [e] at g2
    split at hs
    · rename_i p hp
      obtain ⟨hb, hs2⟩ := ab_bif hs
      simp only [Bool.and_eq_true, decide_eq_true_eq] at hb
      cases hs2
      match st, g2 with
      | [v], g2 =>
        obtain ⟨x, rfl, h1, h2⟩ := ab_iv_ok g3 hp g2.1
        refine ⟨some (.int x), rfl, ?_, ab_rtn_g hg (r := some (.int x)) g2⟩
        have hx : x.toInt = 0 ∨ x.toInt = 1 := by omega
        show (x == 0 || x == 1) = true
        rcases hx with hx | hx
        · have : x = 0 := Int32.toInt_inj.mp hx
          subst this; rfl
        · have : x = 1 := Int32.toInt_inj.mp hx
          subst this; rfl
      | [], g2 => exact g2.elim
      | _ :: _ :: _, g2 => exact g2.2.elim
    · cases hs
  · rename_i a e
    rw [e] at g2
    split at hs
    · rename_i hk
      cases hs
      match st, g2 with
      | [v], g2 =>
        obtain ⟨x, rfl⟩ := ab_kd2 g3 g2.1 hk
        exact ⟨some (.long x), rfl, rfl, ab_rtn_g hg (r := some (.long x)) g2⟩
      | [], g2 => exact g2.elim
      | _ :: _ :: _, g2 => exact g2.2.elim
    · cases hs
  · rename_i e
    rw [e] at g2
    cases hs
    match st, g2 with
    | [], g2 => exact ⟨none, rfl, rfl, ab_rtn_g hg (r := none) g2⟩
    | _ :: _, g2 => exact g2.elim
  · cases hs
end RTN
def ab_room (mi : ax_MI) (S : ab_S) : Bool := Nat.ble S.2.2.2.2.2.2.1 mi.2.2.2.2.2.2.1 && Nat.ble S.2.2.2.2.2.2.2 mi.2.2.2.2.2.2.2.1
/-- one instruction, then on by nx -/
def ab_X1 (prog : List ax_MI) (cl : ab_CL) (md : List (Nat × Int)) (sm : Bool) (mi : ax_MI) (k : Nat) (nx : Nat → ab_S → Option (List ab_OC)) (e : ax_EN) (pc : Nat) (S : ab_S) : Option (List ab_OC) :=
  bif ab_isr e.2.1 then (match ab_rtn mi.2.2.2.2.1 e.2.1 S with
    | some R => some [.inr R]
    | none => none)
  else match ab_inv prog e.2.1 e.2.2.2.1 S with
    | some q => (match cl k q.1 q.2.1 S q.2.2.1 q.2.2.2 with
      | some L => ab_bind (fun R => bif ab_room mi R then nx (pc + 3) R else none) L
      | none => none)
    | none => (match ab_step md sm mi.2.2.2.1 e.2.1 e.2.2.2.1 pc S with
      | some L => ab_bind (fun q => bif ab_room mi q.2 then nx q.1 q.2 else none) L
      | none => none)
def ab_X (prog : List ax_MI) (cl : ab_CL) (md : List (Nat × Int)) (sm : Bool) (sp : List (Nat × (Nat ⊕ (Nat × Nat)))) (mi : ax_MI) (cut : Nat → Bool) (k : Nat) : Nat → Bool → Nat → ab_S → Option (List ab_OC)
  | 0, _, _, _ => none
  | f + 1, first, pc, S => bif !first && cut pc then some [.inl (pc, S)] else match ax_at mi.2.2.2.2.2.2.2.2 pc with
    | none => none
    | some e => (match ab_sps sp pc S with
      | some Ss => ab_bind (fun S => ab_X1 prog cl md sm mi k (fun pc S => ab_X prog cl md sm sp mi cut k f false pc S) e pc S) Ss
      | none => none)
/-- abstract calls are right -/
def ab_clOk (l : Launch) (G : ax_T) (prog : List ax_MI) (md : List (Nat × Int)) (cl : ab_CL) : Prop := ∀ (k j : Nat) (mi : ax_MI) (S : ab_S) (vs rest : List ab_V) (L : List ab_S), prog[j]? = some mi → cl k j mi S vs rest = some L → ∀ (d : Nat), k ≤ d → ∀ (W : List Value) (h0 : ax_H) (n0 : Nat) (V : List Value) (lv : List (Nat × Value)) (st as rst : List Value) (h : ax_H) (n cs ss : Nat),
  ab_g (W, h0, n0, md) S V lv st h n cs ss → ab_stR V vs as → ab_stR V rest rst → ∃ o, ab_M l G d mi as h n o ∧ ∃ R ∈ L, ∃ V', ab_g (W, h0, n0, md) R V' lv (o.1.toList ++ rst) o.2.1 o.2.2 (cs + mi.2.2.2.2.2.2.1) (ss + mi.2.2.2.2.2.2.2.1)
section WAY
variable {l : Launch} {G : ax_T} {prog : List ax_MI} {mi : ax_MI} {d : Nat} {md : List (Nat × Int)} {cl : ab_CL} {sm : Bool} {sp : List (Nat × (Nat ⊕ (Nat × Nat)))} {cut : Nat → Bool} {k : Nat} {W : List Value} {h0 : ax_H} {n0 : Nat}
/-- a cut is reached, or it returns -/
def ab_res (l : Launch) (G : ax_T) (mi : ax_MI) (d : Nat) (E : ab_E) (L : List ab_OC) (F : ax_F) : Prop :=
  (∃ pc S, Sum.inl (pc, S) ∈ L ∧ ∃ V lv st h n cs ss, ab_g E S V lv st h n cs ss ∧ cs ≤ mi.2.2.2.2.2.2.1 ∧ ss ≤ mi.2.2.2.2.2.2.2.1 ∧ ∀ o, ab_Wd l G mi d o (pc, lv, st, h, n, cs, ss) → ab_Wd l G mi d o F) ∨
  (∃ S, Sum.inr S ∈ L ∧ ∃ o V, ab_g E S V [] o.1.toList o.2.1 o.2.2 0 0 ∧ ax_retT mi.2.2.2.2.1 o.1 = true ∧ ab_Wd l G mi d o F)
theorem ab_res_mono {E : ab_E} {L M : List ab_OC} {F F' : ax_F} (hL : ∀ b ∈ L, b ∈ M) (hF : ∀ o, ab_Wd l G mi d o F → ab_Wd l G mi d o F') (h : ab_res l G mi d E L F) : ab_res l G mi d E M F' := by
  rcases h with ⟨pc, S, h1, V, lv, st, h, n, cs, ss, h2, h3, h4, h5⟩ | ⟨S, h1, o, V, h2, h3, h4⟩
  · exact Or.inl ⟨pc, S, hL _ h1, V, lv, st, h, n, cs, ss, h2, h3, h4, fun o ho => hF o (h5 o ho)⟩
  · exact Or.inr ⟨S, hL _ h1, o, V, h2, h3, hF o h4⟩
theorem ab_X1_ok (hprog : ax_Prog prog) (hmi : mi ∈ prog) (hcl : ab_clOk l G prog md cl) (hk : k ≤ d) {nx : Nat → ab_S → Option (List ab_OC)}
    (hnx : ∀ (pc : Nat) (S : ab_S) (L : List ab_OC), nx pc S = some L → ∀ (V : List Value) (lv : List (Nat × Value)) (st : List Value) (h : ax_H) (n cs ss : Nat), ab_g (W, h0, n0, md) S V lv st h n cs ss → cs ≤ mi.2.2.2.2.2.2.1 → ss ≤ mi.2.2.2.2.2.2.2.1 → ab_res l G mi d (W, h0, n0, md) L (pc, lv, st, h, n, cs, ss))
    {en : ax_EN} {pc : Nat} (ha : ax_at mi.2.2.2.2.2.2.2.2 pc = some en) {S : ab_S} {L : List ab_OC} (hs : ab_X1 prog cl md sm mi k nx en pc S = some L) {V : List Value} {lv : List (Nat × Value)} {st : List Value} {h : ax_H} {n cs ss : Nat} (hg : ab_g (W, h0, n0, md) S V lv st h n cs ss) (hc1 : cs ≤ mi.2.2.2.2.2.2.1) (hc2 : ss ≤ mi.2.2.2.2.2.2.2.1) :
    ab_res l G mi d (W, h0, n0, md) L (pc, lv, st, h, n, cs, ss) := by
  unfold ab_X1 at hs
  cases er : ab_isr en.2.1 with
  | true =>
    rw [er] at hs
    simp only [cond_true] at hs
    split at hs
    · rename_i R hR
      cases hs
      obtain ⟨r, h1, h2, h3⟩ := ab_rtn_ok hg hR
      exact Or.inr ⟨R, List.mem_singleton.mpr rfl, (r, h, n), V, h3, h2, ab_Wd_ret hprog hmi ha h1 h2 hc1 hc2⟩
    · cases hs
  | false =>
    rw [er] at hs
    simp only [cond_false] at hs
    split at hs
    · rename_i q hq
      obtain ⟨j, mj, vs, rest⟩ := q
      obtain ⟨hj, as, rst, h1, h2, h3⟩ := ab_inv_ok hg hq
      split at hs
      · rename_i M hM
        obtain ⟨o, h4, R, hR, V', h5⟩ := hcl k j mj S vs rest M hj hM d hk W h0 n0 V lv st as rst h n cs ss hg h2 h3
        obtain ⟨x, hx1, hx2⟩ := ab_bind_in hs hR
        obtain ⟨hb1, hb2⟩ := ab_bif hx1
        simp only [ab_room, Bool.and_eq_true, Nat.ble_eq] at hb1
        have e7 := h5.2.2.2.2.2.2.1
        have r1 : cs + mj.2.2.2.2.2.2.1 ≤ mi.2.2.2.2.2.2.1 := by rw [e7.1]; exact hb1.1
        have r2 : ss + mj.2.2.2.2.2.2.2.1 ≤ mi.2.2.2.2.2.2.2.1 := by rw [e7.2]; exact hb1.2
        exact ab_res_mono hx2 (fun o' ho' => ab_Wd_inv hprog hmi ha h1 h4 r1 r2 ho') (hnx _ _ _ hb2 V' lv _ _ _ _ _ h5 r1 r2)
      · cases hs
    · split at hs
      · rename_i M hM
        obtain ⟨F, h1, q, hq, h2, V', h3⟩ := ab_step_ok (iv := ab_io G) hg hM
        obtain ⟨x, hx1, hx2⟩ := ab_bind_in hs hq
        obtain ⟨hb1, hb2⟩ := ab_bif hx1
        simp only [ab_room, Bool.and_eq_true, Nat.ble_eq] at hb1
        have e7 := h3.2.2.2.2.2.2.1
        have r1 : F.2.2.2.2.2.1 ≤ mi.2.2.2.2.2.2.1 := by rw [e7.1]; exact hb1.1
        have r2 : F.2.2.2.2.2.2 ≤ mi.2.2.2.2.2.2.2.1 := by rw [e7.2]; exact hb1.2
        obtain ⟨fpc, flv, fst', fh, fn, fcs, fss⟩ := F
        have h2' : fpc = q.1 := h2
        subst h2'
        exact ab_res_mono hx2 (fun o' ho' => ab_Wd_step hprog hmi ha h1 r1 r2 ho') (hnx _ _ _ hb2 V' _ _ _ _ _ _ h3 r1 r2)
      · cases hs
theorem ab_X_ok (hprog : ax_Prog prog) (hmi : mi ∈ prog) (hcl : ab_clOk l G prog md cl) (hk : k ≤ d) : ∀ (f : Nat) (first : Bool) (pc : Nat) (S : ab_S) (L : List ab_OC), ab_X prog cl md sm sp mi cut k f first pc S = some L → ∀ (V : List Value) (lv : List (Nat × Value)) (st : List Value) (h : ax_H) (n cs ss : Nat), ab_g (W, h0, n0, md) S V lv st h n cs ss → cs ≤ mi.2.2.2.2.2.2.1 → ss ≤ mi.2.2.2.2.2.2.2.1 → ab_res l G mi d (W, h0, n0, md) L (pc, lv, st, h, n, cs, ss) := by
  intro f
  induction f with
  | zero => intro first pc S L hs; cases hs
  | succ f ih =>
    intro first pc S L hs V lv st h n cs ss hg hc1 hc2
    rw [ab_X] at hs
    cases ec : (!first && cut pc) with
    | true =>
      rw [ec] at hs
      cases hs
      exact Or.inl ⟨pc, S, List.mem_singleton.mpr rfl, V, lv, st, h, n, cs, ss, hg, hc1, hc2, fun o ho => ho⟩
    | false =>
      rw [ec] at hs
      simp only [cond_false] at hs
      split at hs
      · cases hs
      · rename_i en ha
        split at hs
        · rename_i Ss hSs
          obtain ⟨R, hR, V', hg'⟩ := ab_sps_ok hg hSs
          obtain ⟨x, hx1, hx2⟩ := ab_bind_in hs hR
          exact ab_res_mono hx2 (fun o ho => ho) (ab_X1_ok hprog hmi hcl hk (fun pc S L hL V lv st h n cs ss => ih false pc S L hL V lv st h n cs ss) ha hx1 hg' hc1 hc2)
        · cases hs
end WAY
end
section
/-! ===== calls by contracts or by their bodies; a contract is checked ===== -/
/-- of each method: are sums remembered, may it be run where it is called, where is what parted -/
abbrev ab_MT : Type := List (Bool × Bool × List (Nat × (Nat ⊕ (Nat × Nat))))
def ab_tryc (CS : List ab_Q) (i : Nat) (md : List (Nat × Int)) (k j : Nat) (mj : ax_MI) (S : ab_S) (vs rest : List ab_V) : List Nat → Option (List ab_S)
  | [] => none
  | c :: cs => match CS[c]? with
    | some Q => bif Nat.blt c i && (Nat.beq Q.1 j && Nat.ble Q.2.1 k) then (match ab_cq md Q mj S vs rest with
      | some L => some L
      | none => ab_tryc CS i md k j mj S vs rest cs) else ab_tryc CS i md k j mj S vs rest cs
    | none => ab_tryc CS i md k j mj S vs rest cs
/-- the caller's state behind a method that was run in place -/
def ab_bk (S : ab_S) (rest : List ab_V) (mc ms : Nat) (r : ab_OC) : Option (List ab_S) := match r with
  | .inl _ => none
  | .inr R => some [(S.1, R.2.1 ++ rest, R.2.2.1, R.2.2.2.1, R.2.2.2.2.1, R.2.2.2.2.2.1, S.2.2.2.2.2.2.1 + mc, S.2.2.2.2.2.2.2 + ms)]
def ab_inl (prog : List ax_MI) (cl : ab_CL) (md : List (Nat × Int)) (sm : Bool) (sp : List (Nat × (Nat ⊕ (Nat × Nat)))) (k : Nat) (mj : ax_MI) (S : ab_S) (vs rest : List ab_V) : Option (List ab_S) := match k with
  | 0 => none
  | k + 1 => bif Nat.ble (ab_sum S.2.2.1 vs) mj.2.2.2.1 then (match ab_X prog cl md sm sp mj (fun _ => false) k 200 true 0 (ab_en S vs) with
    | some L => ab_bind (ab_bk S rest mj.2.2.2.2.2.2.1 mj.2.2.2.2.2.2.2.1) L
    | none => none) else none
def ab_call (prog : List ax_MI) (mt : ab_MT) (cd : List (List Nat)) (CS : List ab_Q) (i : Nat) (md : List (Nat × Int)) : Nat → ab_CL
  | 0 => fun k j mj S vs rest => ab_tryc CS i md k j mj S vs rest (cd.getD j [])
  | f + 1 => fun k j mj S vs rest => match mt[j]? with
    | some (sm, true, sp) => ab_inl prog (ab_call prog mt cd CS i md f) md sm sp k mj S vs rest
    | _ => ab_tryc CS i md k j mj S vs rest (cd.getD j [])
section CHK
variable {l : Launch} {G : ax_T} {prog : List ax_MI} {mt : ab_MT} {cd : List (List Nat)} {CS : List ab_Q} {i : Nat} {md : List (Nat × Int)}
theorem ab_tryc_ok (hlow : ∀ c Q, c < i → CS[c]? = some Q → ab_QOk l G prog Q) {k j : Nat} {mj : ax_MI} (hj : prog[j]? = some mj) {S : ab_S} {vs rest : List ab_V} {L : List ab_S} : ∀ (cs : List Nat), ab_tryc CS i md k j mj S vs rest cs = some L → ∀ (d : Nat), k ≤ d → ∀ (W : List Value) (h0 : ax_H) (n0 : Nat) (V : List Value) (lv : List (Nat × Value)) (st as rst : List Value) (h : ax_H) (n cs ss : Nat),
    ab_g (W, h0, n0, md) S V lv st h n cs ss → ab_stR V vs as → ab_stR V rest rst → ∃ o, ab_M l G d mj as h n o ∧ ∃ R ∈ L, ∃ V', ab_g (W, h0, n0, md) R V' lv (o.1.toList ++ rst) o.2.1 o.2.2 (cs + mj.2.2.2.2.2.2.1) (ss + mj.2.2.2.2.2.2.2.1)
  | [], hs => by cases hs
  | c :: cs, hs => by
    unfold ab_tryc at hs
    split at hs
    · rename_i Q hQ
      cases e : (Nat.blt c i && (Nat.beq Q.1 j && Nat.ble Q.2.1 k)) with
      | false =>
        rw [e] at hs
        exact ab_tryc_ok hlow hj cs hs
      | true =>
        rw [e] at hs
        simp only [cond_true] at hs
        simp only [Bool.and_eq_true, Nat.blt_eq, Nat.beq_eq, Nat.ble_eq] at e
        split at hs
        · rename_i L' hL'
          cases hs
          intro d hd W h0 n0 V lv st as rst h n cs' ss hg hv hr
          exact ab_cq_ok (hlow c Q e.1 hQ) (by rw [e.2.1]; exact hj) (Nat.le_trans e.2.2 hd) hg hv hr hL'
        · exact ab_tryc_ok hlow hj cs hs
    · exact ab_tryc_ok hlow hj cs hs
theorem ab_inl_ok (hprog : ax_Prog prog) {cl : ab_CL} (hcl : ab_clOk l G prog md cl) {sm : Bool} {sp : List (Nat × (Nat ⊕ (Nat × Nat)))} {k : Nat} {mj : ax_MI} (hj : mj ∈ prog) {S : ab_S} {vs rest : List ab_V} {L : List ab_S} (hs : ab_inl prog cl md sm sp k mj S vs rest = some L) (d : Nat) (hd : k ≤ d) (W : List Value) (h0 : ax_H) (n0 : Nat) (V : List Value) (lv : List (Nat × Value)) (st as rst : List Value) (h : ax_H) (n cs ss : Nat)
    (hg : ab_g (W, h0, n0, md) S V lv st h n cs ss) (hv : ab_stR V vs as) (hr : ab_stR V rest rst) : ∃ o, ab_M l G d mj as h n o ∧ ∃ R ∈ L, ∃ V', ab_g (W, h0, n0, md) R V' lv (o.1.toList ++ rst) o.2.1 o.2.2 (cs + mj.2.2.2.2.2.2.1) (ss + mj.2.2.2.2.2.2.2.1) := by
  cases k with
  | zero => cases hs
  | succ k =>
    obtain ⟨d, rfl⟩ : ∃ d', d = d' + 1 := ⟨d - 1, by omega⟩
    unfold ab_inl at hs
    obtain ⟨h1, h2⟩ := ab_bif hs
    split at h2
    · rename_i M hM
      have hc := ab_en_ok hg hv md
      have hlen : (lg_sl as).length ≤ mj.2.2.2.1 := by
        rw [ab_sl_sum, ab_sum_ok hg.2.2.1 hv]
        simpa [Nat.ble_eq] using h1
      rcases ab_X_ok hprog hj hcl (show k ≤ d by omega) _ _ _ _ _ hM _ _ _ _ _ _ _ hc (Nat.zero_le _) (Nat.zero_le _) with ⟨pc, R, hR, -⟩ | ⟨R, hR, o, V', hgR, ht, hW⟩
      · obtain ⟨x, hx1, -⟩ := ab_bind_in h2 hR
        cases hx1
      · obtain ⟨x, hx1, hx2⟩ := ab_bind_in h2 hR
        cases hx1
        refine ⟨o, ab_Wd_call hprog hj hlen ht hW, _, hx2 _ (List.mem_singleton.mpr rfl), V', ?_⟩
        obtain ⟨g1, g2, g3, g4, g5, g6, g7, g8, g9⟩ := hg
        obtain ⟨k1, k2, k3, k4, k5, k6, k7, k8, k9⟩ := hgR
        have hx : ab_ext V V' := k9
        refine ⟨ab_lvR_ext hx g1, ab_stR_two k2 (ab_stR_ext hx hr), k3, k4, k5, k6, ⟨by rw [g7.1], by rw [g7.2]⟩, ⟨k8.1, fun q hq a ha => ?_, Nat.le_trans g8.2.2 k8.2.2⟩, fun u v hu => hx u v (g9 u v hu)⟩
        rw [k8.2.1 q (Nat.lt_of_lt_of_le hq g8.2.2) a ha]
        exact g8.2.1 q hq a ha
    · cases h2
theorem ab_call_ok (hprog : ax_Prog prog) (hlow : ∀ c Q, c < i → CS[c]? = some Q → ab_QOk l G prog Q) : ∀ (f : Nat), ab_clOk l G prog md (ab_call prog mt cd CS i md f)
  | 0 => fun k j mi S vs rest L hj hs d hd W h0 n0 V lv st as rst h n cs ss hg hv hr => ab_tryc_ok hlow hj _ hs d hd W h0 n0 V lv st as rst h n cs ss hg hv hr
  | f + 1 => fun k j mi S vs rest L hj hs d hd W h0 n0 V lv st as rst h n cs ss hg hv hr => by
    have ih := ab_call_ok hprog hlow f
    simp only [ab_call] at hs
    split at hs
    · exact ab_inl_ok hprog ih (List.mem_of_getElem? hj) hs d hd W h0 n0 V lv st as rst h n cs ss hg hv hr
    · exact ab_tryc_ok hlow hj _ hs d hd W h0 n0 V lv st as rst h n cs ss hg hv hr
end CHK
/-! measures: lists of differences -/
def ab_mv (V : List Value) (q : ab_V × ab_V) : Nat := match ab_cv V q.1, ab_cv V q.2 with
  | some (.int x), some (.int y) => (x.toInt - y.toInt).toNat
  | _, _ => 0
def ab_enc (V : List Value) : Nat → List (ab_V × ab_V) → Nat
  | 0, _ => 0
  | _ + 1, [] => 0
  | k + 1, q :: L => ab_mv V q * 8589934592 ^ k + ab_enc V k L
theorem ab_mv_lt (V : List Value) (q : ab_V × ab_V) : ab_mv V q < 8589934592 := by
  unfold ab_mv
  split
  · rename_i x y _ _
    have h1 := x.le_toInt
    have h2 := x.toInt_lt
    have h3 := y.le_toInt
    have h4 := y.toInt_lt
    omega
  · omega
theorem ab_enc_lt (V : List Value) : ∀ (k : Nat) (L : List (ab_V × ab_V)), ab_enc V k L < 8589934592 ^ k
  | 0, _ => by simp [ab_enc]
  | k + 1, [] => Nat.pow_pos (by decide)
  | k + 1, q :: L => by
    have h1 := ab_enc_lt V k L
    have h2 := ab_mv_lt V q
    have h3 : (ab_mv V q + 1) * 8589934592 ^ k ≤ 8589934592 * 8589934592 ^ k := Nat.mul_le_mul_right _ h2
    show ab_mv V q * 8589934592 ^ k + ab_enc V k L < 8589934592 ^ (k + 1)
    rw [Nat.pow_succ, Nat.mul_comm (8589934592 ^ k)]
    rw [Nat.add_mul, Nat.one_mul] at h3
    omega
/-- the second list, under a substitution, is less than the first -/
def ab_lex (Γ : List ab_Y) (C : List (Nat × Nat × Int)) (σ : List ab_V) : List (ab_V × ab_V) → List (ab_V × ab_V) → Bool
  | p :: s, q :: t => (match ab_sb σ q.1, ab_sb σ q.2 with
    | some a, some b => (match ab_iv Γ a, ab_iv Γ b, ab_iv Γ p.1, ab_iv Γ p.2, ab_ub Γ C 4 a p.1, ab_ub Γ C 4 p.2 b with
      | some _, some _, some _, some _, some x, some y => bif decide (x + y ≤ -1) && ab_leq Γ C 4 p.2 p.1 (-1) then true else bif decide (x + y ≤ 0) then ab_lex Γ C σ s t else false
      | _, _, _, _, _, _ => false)
    | _, _ => false)
  | _, _ => false
theorem ab_iv_cv {n : Nat} {V : List Value} {Γ : List ab_Y} (hΓ : ab_ty n V Γ) {a : ab_V} {p : Int × Int} (h : ab_iv Γ a = some p) : ∃ x : Int32, ab_cv V a = some (.int x) := by
  have hb : ∃ w, ab_cv V a = some w := by
    rcases a with c | (u | (k | j))
    · simp only [ab_iv, ab_cv] at h ⊢
      cases e : ab_rng c with
      | false => rw [e] at h; cases h
      | true => exact ⟨_, rfl⟩
    · simp only [ab_iv] at h
      split at h
      · rename_i hu
        obtain ⟨w, h1, -⟩ := hΓ.2 u _ hu
        exact ⟨w, h1⟩
      · cases h
    · cases h
    · cases h
  obtain ⟨w, hw⟩ := hb
  obtain ⟨x, rfl, -⟩ := ab_iv_ok hΓ h hw
  exact ⟨x, hw⟩
theorem ab_lex_ok {n : Nat} {V V0 : List Value} {Γ : List ab_Y} {C : List (Nat × Nat × Int)} (hΓ : ab_ty n V Γ) (hC : ab_co V C) {σ : List ab_V} (hσ : ab_all V σ) (hm : ∀ (a : ab_V) (w : Value), ab_cv V a = some w → ab_cv V0 a = some w ∨ ab_cv V0 a = none) : ∀ (k : Nat) (s t : List (ab_V × ab_V)), s.length ≤ k → (∀ p ∈ s, (∃ w, ab_cv V0 p.1 = some w) ∧ ∃ w, ab_cv V0 p.2 = some w) → ab_lex Γ C σ s t = true → ab_enc (ab_vl V σ) k t < ab_enc V0 k s
  | 0, [], _, _, _, hl => by unfold ab_lex at hl; cases hl
  | 0, _ :: _, _, hk, _, _ => by simp at hk
  | k + 1, [], _, _, _, hl => by unfold ab_lex at hl; cases hl
  | k + 1, p :: s, [], _, _, hl => by unfold ab_lex at hl; cases hl
  | k + 1, p :: s, q :: t, hk, hV, hl => by
    unfold ab_lex at hl
    split at hl
    · rename_i a b ha hb
      split at hl
      · rename_i e1 e2 e3 e4 x y i1 i2 i3 i4 hx hy
        obtain ⟨xa, ca⟩ := ab_iv_cv hΓ i1
        obtain ⟨xb, cb⟩ := ab_iv_cv hΓ i2
        obtain ⟨xp, cp⟩ := ab_iv_cv hΓ i3
        obtain ⟨xq, cq⟩ := ab_iv_cv hΓ i4
        have u1 := ab_ub_ok hΓ hC 4 _ _ _ hx _ _ ca cp
        have u2 := ab_ub_ok hΓ hC 4 _ _ _ hy _ _ cq cb
        obtain ⟨⟨w1, hw1⟩, ⟨w2, hw2⟩⟩ := hV p List.mem_cons_self
        have cp0 : ab_cv V0 p.1 = some (.int xp) := by
          rcases hm _ _ cp with h | h
          · exact h
          · rw [h] at hw1; cases hw1
        have cq0 : ab_cv V0 p.2 = some (.int xq) := by
          rcases hm _ _ cq with h | h
          · exact h
          · rw [h] at hw2; cases hw2
        have m1 : ab_mv (ab_vl V σ) q = (xa.toInt - xb.toInt).toNat := by
          unfold ab_mv
          rw [ab_sb_cv hσ ha, ab_sb_cv hσ hb, ca, cb]
        have m2 : ab_mv V0 p = (xp.toInt - xq.toInt).toNat := by
          unfold ab_mv
          rw [cp0, cq0]
        show ab_mv (ab_vl V σ) q * 8589934592 ^ k + ab_enc (ab_vl V σ) k t < ab_mv V0 p * 8589934592 ^ k + ab_enc V0 k s
        have hlt := ab_enc_lt (ab_vl V σ) k t
        cases ed : (decide (x + y ≤ -1) && ab_leq Γ C 4 p.2 p.1 (-1)) with
        | true =>
          simp only [Bool.and_eq_true, decide_eq_true_eq] at ed
          have u3 := ab_leq_ok hΓ hC ed.2 cq cp
          have hstep : ab_mv (ab_vl V σ) q + 1 ≤ ab_mv V0 p := by rw [m1, m2]; omega
          have := Nat.mul_le_mul_right (8589934592 ^ k) hstep
          rw [Nat.add_mul, Nat.one_mul] at this
          omega
        | false =>
          rw [ed] at hl
          simp only [cond_false] at hl
          cases ee : decide (x + y ≤ 0) with
          | false => rw [ee] at hl; cases hl
          | true =>
            rw [ee] at hl
            simp only [cond_true] at hl
            have ee' := of_decide_eq_true ee
            have hle : ab_mv (ab_vl V σ) q ≤ ab_mv V0 p := by rw [m1, m2]; omega
            have h2 := Nat.mul_le_mul_right (8589934592 ^ k) hle
            have ih := ab_lex_ok hΓ hC hσ hm k s t (by simpa using hk) (fun r hr => hV r (List.mem_cons_of_mem _ hr)) hl
            omega
      · cases hl
    · cases hl
end
section
/-! ===== a contract that is checked holds ===== -/
/-- a cut: its place, what is told there, its measure -/
abbrev ab_CU : Type := Nat × ab_S × List (ab_V × ab_V)
def ab_oc1 (n0 : Nat) (cuts : List ab_CU) (posts : List ab_S) (src : Option (List (ab_V × ab_V))) (r : ab_OC) : Bool := match r with
  | .inl q => cuts.any fun c => Nat.beq c.1 q.1 && (match ab_fit n0 q.2 c.2.1 with
    | some z => (match src with
      | some s => ab_lex z.1.2.2.1 z.1.2.2.2.1 z.2 s c.2.2
      | none => true)
    | none => false)
  | .inr S => posts.any fun P => (ab_fit n0 S P).isSome
def ab_chk1 (prog : List ax_MI) (mt : ab_MT) (cd : List (List Nat)) (CS : List ab_Q) (i : Nat) (Q : ab_Q) (mi : ax_MI) (cuts : List ab_CU) (src : Option (List (ab_V × ab_V))) (pc : Nat) (S : ab_S) : Bool :=
  match ab_X prog (ab_call prog mt cd CS i Q.2.2.2.1 8) Q.2.2.2.1 (mt.getD Q.1 (false, false, [])).1 (mt.getD Q.1 (false, false, [])).2.2 mi (fun pc => cuts.any fun c => Nat.beq c.1 pc) (Q.2.1 - 1) 400 true pc S with
  | some L => L.all (ab_oc1 Q.2.2.1.2.2.1.length cuts Q.2.2.2.2 src)
  | none => false
def ab_chkE (prog : List ax_MI) (mt : ab_MT) (cd : List (List Nat)) (CS : List ab_Q) (i : Nat) (Q : ab_Q) (mi : ax_MI) (cuts : List ab_CU) : Bool := ab_chk1 prog mt cd CS i Q mi cuts none 0 Q.2.2.1
def ab_chkC (prog : List ax_MI) (mt : ab_MT) (cd : List (List Nat)) (CS : List ab_Q) (i : Nat) (Q : ab_Q) (mi : ax_MI) (cuts : List ab_CU) (c : ab_CU) : Bool := (Nat.ble c.2.2.length 64 && (c.2.2.all fun p => (ab_iv c.2.1.2.2.1 p.1).isSome && (ab_iv c.2.1.2.2.1 p.2).isSome)) && ab_chk1 prog mt cd CS i Q mi cuts (some c.2.2) c.1 c.2.1
section CON
variable {l : Launch} {G : ax_T} {prog : List ax_MI} {mt : ab_MT} {cd : List (List Nat)} {CS : List ab_Q} {i : Nat} {Q : ab_Q} {mi : ax_MI} {cuts : List ab_CU}
/-- the method returns from here as the contract says -/
def ab_good (l : Launch) (G : ax_T) (mi : ax_MI) (d : Nat) (E : ab_E) (posts : List ab_S) (F : ax_F) : Prop := ∃ o, ax_retT mi.2.2.2.2.1 o.1 = true ∧ ab_Wd l G mi d o F ∧ ∃ P ∈ posts, ∃ V' cs ss, ab_g E P V' [] o.1.toList o.2.1 o.2.2 cs ss
theorem ab_cv_back {V0 V : List Value} (hx : ab_ext V0 V) (a : ab_V) (w : Value) (hw : ab_cv V a = some w) : ab_cv V0 a = some w ∨ ab_cv V0 a = none := by
  cases e : ab_cv V0 a with
  | none => exact Or.inr rfl
  | some v =>
    have := ab_ext_cv hx e
    rw [hw] at this
    cases this
    exact Or.inl rfl
theorem ab_go1 (hprog : ax_Prog prog) (hlow : ∀ c Q, c < i → CS[c]? = some Q → ab_QOk l G prog Q) (hmi : mi ∈ prog) {d : Nat} (hd : Q.2.1 - 1 ≤ d) {V : List Value} (hV : V.length ≤ Q.2.2.1.2.2.1.length) {h : ax_H} {n : Nat} {src : Option (List (ab_V × ab_V))} {pc : Nat} {S : ab_S} (hs : ab_chk1 prog mt cd CS i Q mi cuts src pc S = true) {V0 : List Value} (hx0 : ab_ext V V0) {lv : List (Nat × Value)} {st : List Value} {h' : ax_H} {n' cs ss : Nat} (hg : ab_g (V, h, n, Q.2.2.2.1) S V0 lv st h' n' cs ss) (hc1 : cs ≤ mi.2.2.2.2.2.2.1) (hc2 : ss ≤ mi.2.2.2.2.2.2.2.1)
    (hnext : ∀ c ∈ cuts, ∀ (V1 : List Value) (lv : List (Nat × Value)) (st : List Value) (h' : ax_H) (n' cs ss : Nat), ab_g (V, h, n, Q.2.2.2.1) c.2.1 V1 lv st h' n' cs ss → cs ≤ mi.2.2.2.2.2.2.1 → ss ≤ mi.2.2.2.2.2.2.2.1 → (∀ s, src = some s → s.length ≤ 64 → (∀ p ∈ s, (∃ w, ab_cv V0 p.1 = some w) ∧ ∃ w, ab_cv V0 p.2 = some w) → ab_enc V1 64 c.2.2 < ab_enc V0 64 s) → ab_good l G mi d (V, h, n, Q.2.2.2.1) Q.2.2.2.2 (c.1, lv, st, h', n', cs, ss)) :
    ab_good l G mi d (V, h, n, Q.2.2.2.1) Q.2.2.2.2 (pc, lv, st, h', n', cs, ss) := by
  unfold ab_chk1 at hs
  split at hs
  · rename_i L hL
    have hg0 : ab_g (V0, h, n, Q.2.2.2.1) S V0 lv st h' n' cs ss := by
      obtain ⟨g1, g2, g3, g4, g5, g6, g7, g8, g9⟩ := hg
      exact ⟨g1, g2, g3, g4, g5, g6, g7, g8, fun u v hu => hu⟩
    rcases ab_X_ok hprog hmi (ab_call_ok hprog hlow 8) hd _ _ _ _ _ hL _ _ _ _ _ _ _ hg0 hc1 hc2 with ⟨pc', S', hin, V1, lv1, st1, h1, n1, cs1, ss1, hg1, r1, r2, hW⟩ | ⟨S', hin, o, V1, hg1, ht, hW⟩
    · have ho := List.all_eq_true.mp hs _ hin
      simp only [ab_oc1] at ho
      obtain ⟨c, hc, hcc⟩ := List.any_eq_true.mp ho
      simp only [Bool.and_eq_true, Nat.beq_eq] at hcc
      obtain ⟨hpc, hfit⟩ := hcc
      split at hfit
      · rename_i z hz
        obtain ⟨S2, σ⟩ := z
        obtain ⟨V2, x2, hg2, he, hself⟩ := ab_fit_ok hg1 hz
        have x02 : ab_ext V0 V2 := hg2.2.2.2.2.2.2.2.2
        have hσ : ab_all V2 σ := by
          have he' := he
          unfold ab_ent at he'
          simp only [Bool.and_eq_true] at he'
          exact (ab_tyS_ok hg2.2.2.2.2.2.2.2.1.1.1 hg2.2.2.1 hg2.2.2.2.1 he'.1).1
        have hgT : ab_g (V, h, n, Q.2.2.2.1) c.2.1 (ab_vl V2 σ) lv1 st1 h1 n1 cs1 ss1 := ab_ent_ok hg2 he (ab_self_ok hself hV (fun u v hu => x02 u v (hx0 u v hu)))
        have hk := hnext c hc _ _ _ _ _ _ _ hgT r1 r2 (fun s es hl hv => by
          subst es
          exact ab_lex_ok hg2.2.2.1 hg2.2.2.2.1 hσ (ab_cv_back x02) 64 s c.2.2 hl hv hfit)
        obtain ⟨o, k1, k2, k3⟩ := hk
        rw [hpc] at k2
        exact ⟨o, k1, hW o k2, k3⟩
      · cases hfit
    · have ho := List.all_eq_true.mp hs _ hin
      simp only [ab_oc1] at ho
      obtain ⟨P, hP, hPP⟩ := List.any_eq_true.mp ho
      obtain ⟨z, hz⟩ := Option.isSome_iff_exists.mp hPP
      obtain ⟨S2, σ⟩ := z
      obtain ⟨V2, x2, hg2, he, hself⟩ := ab_fit_ok hg1 hz
      have x02 : ab_ext V0 V2 := hg2.2.2.2.2.2.2.2.2
      exact ⟨o, ht, hW, P, hP, _, 0, 0, ab_ent_ok hg2 he (ab_self_ok hself hV (fun u v hu => x02 u v (hx0 u v hu)))⟩
  · cases hs
theorem ab_con_ok (hprog : ax_Prog prog) (hlow : ∀ c Q, c < i → CS[c]? = some Q → ab_QOk l G prog Q) (hmi : prog[Q.1]? = some mi) (hD : Nat.ble 1 Q.2.1 = true) (hE : ab_chkE prog mt cd CS i Q mi cuts = true) (hC : ∀ c ∈ cuts, ab_chkC prog mt cd CS i Q mi cuts c = true) : ab_QOk l G prog Q := by
  intro mi' hmi' d hd V as h n hlen hg
  rw [hmi] at hmi'
  cases hmi'
  have hin : mi ∈ prog := List.mem_of_getElem? hmi
  have hD' : 1 ≤ Q.2.1 := by simpa [Nat.ble_eq] using hD
  obtain ⟨d, rfl⟩ : ∃ d', d = d' + 1 := ⟨d - 1, by omega⟩
  have hd' : Q.2.1 - 1 ≤ d := by omega
  have hV : V.length ≤ Q.2.2.1.2.2.1.length := Nat.le_of_eq hg.2.2.1.1
  have main : ∀ (N : Nat), ∀ c ∈ cuts, ∀ (V1 : List Value) (lv : List (Nat × Value)) (st : List Value) (h' : ax_H) (n' cs ss : Nat), ab_enc V1 64 c.2.2 < N → ab_g (V, h, n, Q.2.2.2.1) c.2.1 V1 lv st h' n' cs ss → cs ≤ mi.2.2.2.2.2.2.1 → ss ≤ mi.2.2.2.2.2.2.2.1 → ab_good l G mi d (V, h, n, Q.2.2.2.1) Q.2.2.2.2 (c.1, lv, st, h', n', cs, ss) := by
    intro N
    induction N with
    | zero => intro c hc V1 lv st h' n' cs ss hN; omega
    | succ N ih =>
      intro c hc V1 lv st h' n' cs ss hN hg1 r1 r2
      have h1 := hC c hc
      unfold ab_chkC at h1
      simp only [Bool.and_eq_true, Nat.ble_eq] at h1
      obtain ⟨⟨hl, hv⟩, hs⟩ := h1
      refine ab_go1 hprog hlow hin hd' hV hs hg1.2.2.2.2.2.2.2.2 hg1 r1 r2 (fun c' hc' V2 lv2 st2 h2 n2 cs2 ss2 hg2 q1 q2 hm => ?_)
      have hlt := hm c.2.2 rfl hl (fun p hp => by
        have h3 := List.all_eq_true.mp hv p hp
        simp only [Bool.and_eq_true] at h3
        obtain ⟨a, ha⟩ := Option.isSome_iff_exists.mp h3.1
        obtain ⟨b, hb⟩ := Option.isSome_iff_exists.mp h3.2
        obtain ⟨x, hx⟩ := ab_iv_cv hg1.2.2.1 ha
        obtain ⟨y, hy⟩ := ab_iv_cv hg1.2.2.1 hb
        exact ⟨⟨_, hx⟩, ⟨_, hy⟩⟩)
      exact ih c' hc' V2 lv2 st2 h2 n2 cs2 ss2 (by omega) hg2 q1 q2
  obtain ⟨o, h1, h2, P, hP, V', c', s', h3⟩ := ab_go1 hprog hlow hin hd' hV hE (fun u v hu => hu) hg (Nat.zero_le _) (Nat.zero_le _) (fun c hc V1 lv st h' n' cs ss hg1 r1 r2 _ => main _ c hc V1 lv st h' n' cs ss (Nat.lt_succ_self _) hg1 r1 r2)
  exact ⟨o, ab_Wd_call hprog hin hlen h1 h2, P, hP, V', c', s', h3⟩
end CON
end
