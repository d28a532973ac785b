/-! ===== a call by its contract ===== -/
def ab_so (σ : List (Option ab_V)) : ab_V → Option ab_V
  | .inr (.inl u) => (σ[u]?).getD none
  | .inl c => some (.inl c)
  | .inr (.inr a) => some (.inr (.inr a))
def ab_a1 (σ : List (Option ab_V)) (v v' : ab_V) : List (Option ab_V) := match v with
  | .inr (.inl u) => (match σ[u]? with
    | some none => σ.set u (some v')
    | _ => σ)
  | _ => σ
def ab_gh1 (S : ab_S) (o i : ab_V) : ab_S := match i with
  | .inl (.ofNat j) => ab_gho S o j
  | _ => S
/-- symbols found by what cells hold -/
def ab_mF : List (ab_V × ab_V × ab_V) → List (Option ab_V) → ab_S → ab_S × List (Option ab_V)
  | [], σ, S => (S, σ)
  | q :: F, σ, S => match ab_so σ q.1, ab_so σ q.2.1 with
    | some o, some i => (match ab_fd (ab_gh1 S o i).2.2.2.2.1 o i with
      | some v => ab_mF F (ab_a1 σ q.2.2 v) (ab_gh1 S o i)
      | none => ab_mF F σ (ab_gh1 S o i))
    | _, _ => ab_mF F σ S
def ab_mL (S : ab_S) : List (Nat × ab_V) → List (Option ab_V) → List (Option ab_V)
  | [], σ => σ
  | q :: L, σ => ab_mL S L (match ab_lk S.1 q.1 with
    | some b => ab_a1 σ q.2 b
    | none => σ)
def ab_mS : List ab_V → List ab_V → List (Option ab_V) → List (Option ab_V)
  | a :: L, b :: M, σ => ab_mS L M (ab_a1 σ a b)
  | _, _, σ => σ
def ab_mt (n0 : Nat) (S T : ab_S) : ab_S × List (Option ab_V) :=
  ab_mF T.2.2.2.2.1 (ab_mS T.2.1 S.2.1 (ab_mL S T.1 ((List.range T.2.2.1.length).map fun u => bif Nat.blt u n0 then some (ab_symV u) else none))) S
def ab_fi2 (p : ab_S × List (Option ab_V)) : ab_S × List ab_V := (p.1, p.2.map fun o => o.getD (.inl 0))
/-- S, with some places read, is as T says -/
def ab_fit (n0 : Nat) (S T : ab_S) : Option (ab_S × List ab_V) := match ab_fi2 (ab_mt n0 S T) with
  | (S', σ) => bif ab_self σ n0 && ab_ent S' T σ then some (S', σ) else none
section CQ
variable {E : ab_E} {S : ab_S} {V : List Value} {lv : List (Nat × Value)} {st : List Value} {h : ax_H} {n cs ss : Nat} {prog : List ax_MI} {l : Launch} {G : ax_T}
theorem ab_ext_trans {V V' V'' : List Value} (h1 : ab_ext V V') (h2 : ab_ext V' V'') : ab_ext V V'' := fun u v hu => h2 u v (h1 u v hu)
theorem ab_gh1_ok (hg : ab_g E S V lv st h n cs ss) (o i : ab_V) : ∃ V', ab_ext V V' ∧ ab_g E (ab_gh1 S o i) V' lv st h n cs ss := by
  unfold ab_gh1
  split
  · exact ab_gho_ok hg o _
  · exact ⟨V, ab_ext_refl V, hg⟩
theorem ab_mF_ok : ∀ (F : List (ab_V × ab_V × ab_V)) (σ : List (Option ab_V)) (S : ab_S) (V : List Value), ab_g E S V lv st h n cs ss → ∃ V', ab_ext V V' ∧ ab_g E (ab_mF F σ S).1 V' lv st h n cs ss
  | [], σ, S, V, hg => ⟨V, ab_ext_refl V, hg⟩
  | q :: F, σ, S, V, hg => by
    unfold ab_mF
    split
    · rename_i o i _ _
      obtain ⟨V1, x1, hg1⟩ := ab_gh1_ok hg o i
      split
      · obtain ⟨V2, x2, hg2⟩ := ab_mF_ok F _ _ V1 hg1
        exact ⟨V2, ab_ext_trans x1 x2, hg2⟩
      · obtain ⟨V2, x2, hg2⟩ := ab_mF_ok F _ _ V1 hg1
        exact ⟨V2, ab_ext_trans x1 x2, hg2⟩
    · exact ab_mF_ok F _ _ V hg
theorem ab_fit_ok (hg : ab_g E S V lv st h n cs ss) {n0 : Nat} {T S' : ab_S} {σ : List ab_V} (hf : ab_fit n0 S T = some (S', σ)) : ∃ V', ab_ext V V' ∧ ab_g E S' V' lv st h n cs ss ∧ ab_ent S' T σ = true ∧ ab_self σ n0 = true := by
  obtain ⟨V', x, hg'⟩ := ab_mF_ok T.2.2.2.2.1 (ab_mS T.2.1 S.2.1 (ab_mL S T.1 ((List.range T.2.2.1.length).map fun u => bif Nat.blt u n0 then some (ab_symV u) else none))) S V hg
  have hf' : (bif ab_self (ab_fi2 (ab_mt n0 S T)).2 n0 && ab_ent (ab_fi2 (ab_mt n0 S T)).1 T (ab_fi2 (ab_mt n0 S T)).2 then some ((ab_fi2 (ab_mt n0 S T)).1, (ab_fi2 (ab_mt n0 S T)).2) else none) = some (S', σ) := hf
  obtain ⟨h1, h2⟩ := ab_bif hf'
  cases h2
  simp only [Bool.and_eq_true] at h1
  exact ⟨V', x, hg', h1.2, h1.1⟩
/-- and so the template holds -/
theorem ab_fit_g (hg : ab_g E S V lv st h n cs ss) {n0 : Nat} (hl : E.1.length ≤ n0) {T S' : ab_S} {σ : List ab_V} (hf : ab_fit n0 S T = some (S', σ)) : ∃ V', ab_ext V V' ∧ ab_g E S' V' lv st h n cs ss ∧ ab_g E T (ab_vl V' σ) lv st h n cs ss := by
  obtain ⟨V', x, h1, h2, h3⟩ := ab_fit_ok hg hf
  exact ⟨V', x, h1, ab_ent_ok h1 h2 (ab_self_ok h3 hl h1.2.2.2.2.2.2.2.2)⟩
def ab_sbL (g : List ab_V) : List ab_V → Option (List ab_V)
  | [] => some []
  | a :: L => match ab_sb g a, ab_sbL g L with
    | some b, some M => some (b :: M)
    | _, _ => none
theorem ab_sbL_ok {g : List ab_V} {V1 V2 : List Value} (hm : ∀ a b w, ab_sb g a = some b → ab_cv V1 a = some w → ab_cv V2 b = some w) : ∀ {L M : List ab_V} {st : List Value}, ab_sbL g L = some M → ab_stR V1 L st → ab_stR V2 M st
  | [], M, [], hs, _ => by cases hs; trivial
  | [], _, _ :: _, _, hr => hr.elim
  | a :: L, M, [], _, hr => hr.elim
  | a :: L, M, v :: st, hs, hr => by
    unfold ab_sbL at hs
    split at hs
    · rename_i b M' hb hM
      cases hs
      exact ⟨hm a b v hb hr.1, ab_sbL_ok hm hM hr.2⟩
    · cases hs
def ab_sb3 (g : List ab_V) (q : ab_V × ab_V × ab_V) : Option (ab_V × ab_V × ab_V) := match ab_sb g q.1, ab_sb g q.2.1, ab_sb g q.2.2 with
  | some a, some b, some c => some (a, b, c)
  | _, _, _ => none
def ab_sbZ (g : List ab_V) (z : ab_V × ab_V × ab_Y) : Option (ab_V × ab_V × ab_Y) := match ab_sb g z.1, ab_sb g z.2.1 with
  | some a, some b => some (a, b, z.2.2)
  | _, _ => none
def ab_sbC (g : List ab_V) (q : Nat × Nat × Int) : List (Nat × Nat × Int) := match g[q.1]?, g[q.2.1]? with
  | some a, some b => ab_dd a b q.2.2
  | _, _ => []
/-- a call's entry -/
def ab_en (S : ab_S) (vs : List ab_V) : ab_S := (ab_args S.2.2.1 0 vs, [], S.2.2.1, S.2.2.2.1, S.2.2.2.2.1, S.2.2.2.2.2.1, 0, 0)
/-- old and new symbols behind a call -/
def ab_gs (S1 : ab_S) (σ : List ab_V) (P : ab_S) : List ab_V := σ ++ (List.range (P.2.2.1.length - σ.length)).map fun j => ab_symV (S1.2.2.1.length + j)
/-- behind a call: what was known and stays, and what the contract tells; some none: it can't be -/
def ab_bh (md : List (Nat × Int)) (S S1 : ab_S) (σ rest : List ab_V) (mc ms : Nat) (P : ab_S) : Option (Option ab_S) := match ab_sbL (ab_gs S1 σ P) P.2.1 with
  | some ans => bif Nat.ble σ.length P.2.2.1.length then some (match ab_rf σ P.2.2.1 (S1.2.2.1 ++ P.2.2.1.drop σ.length) with
      | some Γ => some (S.1, ans ++ rest, Γ, (P.2.2.2.1.flatMap (ab_sbC (ab_gs S1 σ P))) ++ S1.2.2.2.1, (P.2.2.2.2.1.filterMap (ab_sb3 (ab_gs S1 σ P))) ++ ab_keepF md S1.2.2.1 S1.2.2.2.2.1, (P.2.2.2.2.2.1.filterMap (ab_sbZ (ab_gs S1 σ P))) ++ ab_keepZ md S1.2.2.1 S1.2.2.2.2.2.1, S.2.2.2.2.2.2.1 + mc, S.2.2.2.2.2.2.2 + ms)
      | none => none) else none
  | none => none
def ab_pl (f : ab_S → Option (Option ab_S)) : List ab_S → Option (List ab_S)
  | [] => some []
  | P :: Ps => match f P, ab_pl f Ps with
    | some (some R), some L => some (R :: L)
    | some none, some L => some L
    | _, _ => none
theorem ab_pl_in {f : ab_S → Option (Option ab_S)} {P : ab_S} : ∀ {Ps L : List ab_S}, ab_pl f Ps = some L → P ∈ Ps → ∃ r, f P = some r ∧ ∀ R, r = some R → R ∈ L
  | [], _, _, hP => by cases hP
  | Q :: Ps, L, hs, hP => by
    unfold ab_pl at hs
    split at hs
    · rename_i R L' hR hL
      cases hs
      rcases List.mem_cons.mp hP with rfl | hP
      · exact ⟨_, hR, fun R' h' => by cases h'; exact List.mem_cons_self⟩
      · obtain ⟨r, h1, h2⟩ := ab_pl_in hL hP
        exact ⟨r, h1, fun R' h' => List.mem_cons_of_mem _ (h2 R' h')⟩
    · rename_i L' hR hL
      cases hs
      rcases List.mem_cons.mp hP with rfl | hP
      · exact ⟨_, hR, fun R' h' => by cases h'⟩
      · exact ab_pl_in hL hP
    · cases hs
def ab_cq (md : List (Nat × Int)) (Q : ab_Q) (mi : ax_MI) (S : ab_S) (vs rest : List ab_V) : Option (List ab_S) :=
  bif Nat.ble (ab_sum S.2.2.1 vs) mi.2.2.2.1 && ab_smd Q.2.2.2.1 md then (match ab_fit 0 (ab_en S vs) Q.2.2.1 with
    | some q => ab_pl (ab_bh Q.2.2.2.1 S q.1 q.2 rest mi.2.2.2.2.2.2.1 mi.2.2.2.2.2.2.2.1) Q.2.2.2.2
    | none => none) else none
theorem ab_en_ok (hg : ab_g E S V lv st h n cs ss) {vs : List ab_V} {as : List Value} (hv : ab_stR V vs as) (md : List (Nat × Int)) : ab_g (V, h, n, md) (ab_en S vs) V (lv_args 0 as) [] h n 0 0 := by
  obtain ⟨g1, g2, g3, g4, g5, g6, g7, g8, g9⟩ := hg
  exact ⟨ab_args_ok g3 0 hv, trivial, g3, g4, g5, g6, ⟨rfl, rfl⟩, ⟨g8.1, fun k _ i _ => rfl, Nat.le_refl _⟩, fun u v hu => hu⟩
theorem ab_ty_mono {n n' : Nat} (hn : n ≤ n') {V : List Value} {Γ : List ab_Y} (h : ab_ty n V Γ) : ab_ty n' V Γ := ⟨h.1, fun u τ hu => by
  obtain ⟨v, h1, h2⟩ := h.2 u τ hu
  exact ⟨v, h1, ab_ok_mono hn h2⟩⟩
theorem ab_ty_two {n : Nat} {V W : List Value} {Γ Δ : List ab_Y} (h1 : ab_ty n V Γ) (h2 : ab_ty n W Δ) : ab_ty n (V ++ W) (Γ ++ Δ) := by
  refine ⟨by simp [h1.1, h2.1], fun u τ hu => ?_⟩
  by_cases hl : u < Γ.length
  · rw [List.getElem?_append_left hl] at hu
    obtain ⟨v, e1, e2⟩ := h1.2 u τ hu
    exact ⟨v, by rw [List.getElem?_append_left (by rw [h1.1]; exact hl)]; exact e1, e2⟩
  · rw [List.getElem?_append_right (by omega)] at hu
    obtain ⟨v, e1, e2⟩ := h2.2 _ τ hu
    exact ⟨v, by rw [List.getElem?_append_right (by rw [h1.1]; omega), h1.1]; exact e1, e2⟩
theorem ab_ty_drop {n : Nat} {V : List Value} {Γ : List ab_Y} (h : ab_ty n V Γ) (k : Nat) : ab_ty n (V.drop k) (Γ.drop k) := by
  refine ⟨by simp [h.1], fun u τ hu => ?_⟩
  rw [List.getElem?_drop] at hu ⊢
  exact h.2 _ τ hu
theorem ab_gs_ok {S1 P : ab_S} {σ : List ab_V} {V1 V' : List Value} (hσ : ab_all V1 σ) (hl1 : V1.length = S1.2.2.1.length) (hl2 : V'.length = P.2.2.1.length) (hx : ∀ (u : Nat) (v : Value), (ab_vl V1 σ)[u]? = some v → V'[u]? = some v) : ∀ a b w, ab_sb (ab_gs S1 σ P) a = some b → ab_cv V' a = some w → ab_cv (V1 ++ V'.drop σ.length) b = some w := by
  intro a b w hs hw
  rcases a with c | (u | (k | j))
  · cases hs; exact hw
  · have hs' : (ab_gs S1 σ P)[u]? = some b := hs
    have hw' : V'[u]? = some w := hw
    unfold ab_gs at hs'
    by_cases hu : u < σ.length
    · rw [List.getElem?_append_left hu] at hs'
      obtain ⟨w', hb⟩ := hσ b (List.mem_of_getElem? hs')
      have h1 : (ab_vl V1 σ)[u]? = some w' := by rw [ab_vl, List.getElem?_map, hs']; simp [hb]
      have h2 := hx u w' h1
      rw [hw'] at h2
      cases h2
      exact ab_cv_app _ hb
    · rw [List.getElem?_append_right (by omega), List.getElem?_map] at hs'
      have hlt : u - σ.length < P.2.2.1.length - σ.length := by
        have := (List.getElem?_eq_some_iff.mp hw').1
        omega
      rw [List.getElem?_range hlt] at hs'
      cases hs'
      show (V1 ++ V'.drop σ.length)[S1.2.2.1.length + (u - σ.length)]? = some w
      rw [List.getElem?_append_right (by omega), List.getElem?_drop, hl1]
      rw [show σ.length + (S1.2.2.1.length + (u - σ.length) - S1.2.2.1.length) = u by omega]
      exact hw'
  · cases hs; exact hw
  · cases hs; exact hw
theorem ab_stR_two {V : List Value} {L M : List ab_V} {s t : List Value} (h1 : ab_stR V L s) (h2 : ab_stR V M t) : ab_stR V (L ++ M) (s ++ t) := by
  rw [ab_stR_iff, List.map_append, List.map_append, ab_stR_iff.mp h1, ab_stR_iff.mp h2]
theorem ab_bh_ok (hg : ab_g E S V lv st h n cs ss) {rest : List ab_V} {rst : List Value} (hr : ab_stR V rest rst) {md : List (Nat × Int)} (hmd : ab_smd md E.2.2.2 = true) {S1 : ab_S} {V1 : List Value} {lv' : List (Nat × Value)} (hx : ab_ext V V1) (hg1 : ab_g (V, h, n, md) S1 V1 lv' [] h n 0 0) {σ : List ab_V} (hσ : ab_all V1 σ) {P : ab_S} {V' : List Value} {o : ax_O} {c' s' : Nat} (hp : ab_g (ab_vl V1 σ, h, n, md) P V' [] o.1.toList o.2.1 o.2.2 c' s') {mc ms : Nat} {r : Option ab_S} (hb : ab_bh md S S1 σ rest mc ms P = some r) :
    ∃ R, r = some R ∧ ∃ V'', ab_g E R V'' lv (o.1.toList ++ rst) o.2.1 o.2.2 (cs + mc) (ss + ms) := by
  obtain ⟨g1, g2, g3, g4, g5, g6, g7, g8, g9⟩ := hg
  obtain ⟨k1, k2, k3, k4, k5, k6, k7, k8, k9⟩ := hg1
  obtain ⟨p1, p2, p3, p4, p5, p6, p7, p8, p9⟩ := hp
  have hnn : n ≤ o.2.2 := p8.2.2
  have hfr : ab_fr md n h o.2.1 := p8.2.1
  have hm := ab_gs_ok (P := P) hσ k3.1 p3.1 p9
  unfold ab_bh at hb
  split at hb
  · rename_i ans hans
    obtain ⟨hle, hb2⟩ := ab_bif hb
    cases hb2
    have hle' : σ.length ≤ P.2.2.1.length := by simpa [Nat.ble_eq] using hle
    have hty : ab_ty o.2.2 (V1 ++ V'.drop σ.length) (S1.2.2.1 ++ P.2.2.1.drop σ.length) := ab_ty_two (ab_ty_mono hnn k3) (ab_ty_drop p3 _)
    obtain ⟨Γ', e1, e2⟩ := ab_rf_ok σ P.2.2.1 _ hty (fun u a τ ha hτ => by
      obtain ⟨w, hw1, hw2⟩ := p3.2 u τ hτ
      refine ⟨w, hm (ab_symV u) a w ?_ hw1, hw2⟩
      show (ab_gs S1 σ P)[u]? = some a
      unfold ab_gs
      rw [List.getElem?_append_left (List.getElem?_eq_some_iff.mp ha).1]
      exact ha)
    rw [e1]
    refine ⟨_, rfl, V1 ++ V'.drop σ.length, ?_⟩
    have hxx : ab_ext V (V1 ++ V'.drop σ.length) := ab_ext_trans hx (ab_ext_app _ _)
    refine ⟨ab_lvR_ext hxx g1, ab_stR_two (ab_sbL_ok hm hans p2) (ab_stR_ext hxx hr), e2, ?_, ?_, ?_, ⟨by rw [g7.1], by rw [g7.2]⟩, ⟨p8.1, fun k hk i hi => ?_, Nat.le_trans g8.2.2 hnn⟩, fun u v hu => hxx u v (g9 u v hu)⟩
    · refine ab_co_two (fun q hq => ?_) (ab_co_app _ k4)
      obtain ⟨q0, hq0, hq⟩ := List.mem_flatMap.mp hq
      unfold ab_sbC at hq
      split at hq
      · rename_i a b ha hb'
        obtain ⟨x, y, f1, f2, f3⟩ := p4 q0 hq0
        exact ab_dd_ok (hm (ab_symV q0.1) a _ ha f1) (hm (ab_symV q0.2.1) b _ hb' f2) f3 q hq
      · cases hq
    · intro q hq
      rcases List.mem_append.mp hq with hq | hq
      · obtain ⟨q0, hq0, hq⟩ := List.mem_filterMap.mp hq
        unfold ab_sb3 at hq
        split at hq
        · rename_i a b c ha hb' hc
          cases hq
          rcases p5 q0 hq0 with ⟨k, x, w, f1, f2, f3, f4⟩ | ⟨x, y, z, f1, f2, f3, f4⟩
          · exact Or.inl ⟨k, x, w, hm _ _ _ ha f1, hm _ _ _ hb' f2, hm _ _ _ hc f3, f4⟩
          · exact Or.inr ⟨x, y, z, hm _ _ _ ha f1, hm _ _ _ hb' f2, hm _ _ _ hc f3, f4⟩
        · cases hq
      · exact ab_ca_app _ (ab_keepF_ok k8.1.1 k3 k5 hfr) q hq
    · intro z hz
      rcases List.mem_append.mp hz with hz | hz
      · obtain ⟨z0, hz0, hz⟩ := List.mem_filterMap.mp hz
        unfold ab_sbZ at hz
        split at hz
        · rename_i a b ha hb'
          cases hz
          obtain ⟨k, b0, f1, f2, f3⟩ := p6 z0 hz0
          exact ⟨k, b0, hm _ _ _ ha f1, hm _ _ _ hb' f2, f3⟩
        · cases hz
      · exact ab_sg_app _ (ab_keepZ_ok k8.1.1 hnn k3 k6 hfr) z hz
    · rw [hfr k (Nat.lt_of_lt_of_le hk g8.2.2) i (ab_smd_ok hmd hi)]
      exact g8.2.1 k hk i hi
  · cases hb
theorem ab_cq_ok {Q : ab_Q} (hQ : ab_QOk l G prog Q) {mi : ax_MI} (hmi : prog[Q.1]? = some mi) {d : Nat} (hd : Q.2.1 ≤ d) (hg : ab_g E S V lv st h n cs ss) {vs rest : List ab_V} {as rst : List Value} (hv : ab_stR V vs as) (hr : ab_stR V rest rst) {L : List ab_S} (hs : ab_cq E.2.2.2 Q mi S vs rest = some L) :
    ∃ o, ab_M l G d mi as h n o ∧ ∃ R ∈ L, ∃ V', ab_g E R V' lv (o.1.toList ++ rst) o.2.1 o.2.2 (cs + mi.2.2.2.2.2.2.1) (ss + mi.2.2.2.2.2.2.2.1) := by
  unfold ab_cq at hs
  obtain ⟨h1, h2⟩ := ab_bif hs
  simp only [Bool.and_eq_true, Nat.ble_eq] at h1
  split at h2
  · rename_i q hq
    obtain ⟨S1, σ⟩ := q
    have hc := ab_en_ok hg hv Q.2.2.2.1
    obtain ⟨V1, hx, hg1, he, -⟩ := ab_fit_ok hc hq
    have hσ : ab_all V1 σ := by
      unfold ab_ent at he
      simp only [Bool.and_eq_true] at he
      exact (ab_tyS_ok hg1.2.2.2.2.2.2.2.1.1.1 hg1.2.2.1 hg1.2.2.2.1 he.1).1
    have hpre := ab_ent_ok hg1 he (W := ab_vl V1 σ) (fun u v hu => hu)
    have hlen : (lg_sl as).length ≤ mi.2.2.2.1 := by
      rw [ab_sl_sum, ab_sum_ok hg.2.2.1 hv]
      exact h1.1
    obtain ⟨o, hM, P, hP, V', c', s', hp⟩ := hQ mi hmi d hd (ab_vl V1 σ) as h n hlen hpre
    obtain ⟨r, hr1, hr2⟩ := ab_pl_in h2 hP
    obtain ⟨R, hR, V'', hgR⟩ := ab_bh_ok hg hr h1.2 hx hg1 hσ hp hr1
    exact ⟨o, hM, R, hr2 R hR, V'', hgR⟩
  · cases h2
end CQ
