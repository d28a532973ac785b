/-! ===== a contract that is checked holds ===== -/
/-- a cut: its place, what is told there, its measure -/
abbrev ab_CU : Type := Nat × ab_S × List (ab_V × ab_V)
def ab_oc1 (n0 : Nat) (cuts : List ab_CU) (posts : List ab_S) (src : Option (List (ab_V × ab_V))) (r : ab_OC) : Bool := match r with
  | .inl q => cuts.any fun c => Nat.beq c.1 q.1 && (match ab_fit n0 q.2 c.2.1 with
    | some z => (match src with
      | some s => ab_lex z.1.2.2.1 z.1.2.2.2.1 z.2 s c.2.2
      | none => true)
    | none => false)
  | .inr S => posts.any fun P => (ab_fit n0 S P).isSome
def ab_chk1 (prog : List ax_MI) (mt : ab_MT) (cd : List (List Nat)) (CS : List ab_Q) (i : Nat) (Q : ab_Q) (mi : ax_MI) (cuts : List ab_CU) (src : Option (List (ab_V × ab_V))) (pc : Nat) (S : ab_S) : Bool :=
  match ab_X prog (ab_call prog mt cd CS i Q.2.2.2.1 8) Q.2.2.2.1 (mt.getD Q.1 (false, false, [])).1 (mt.getD Q.1 (false, false, [])).2.2 mi (fun pc => cuts.any fun c => Nat.beq c.1 pc) (Q.2.1 - 1) 400 true pc S with
  | some L => L.all (ab_oc1 Q.2.2.1.2.2.1.length cuts Q.2.2.2.2 src)
  | none => false
def ab_chkE (prog : List ax_MI) (mt : ab_MT) (cd : List (List Nat)) (CS : List ab_Q) (i : Nat) (Q : ab_Q) (mi : ax_MI) (cuts : List ab_CU) : Bool := ab_chk1 prog mt cd CS i Q mi cuts none 0 Q.2.2.1
def ab_chkC (prog : List ax_MI) (mt : ab_MT) (cd : List (List Nat)) (CS : List ab_Q) (i : Nat) (Q : ab_Q) (mi : ax_MI) (cuts : List ab_CU) (c : ab_CU) : Bool := (Nat.ble c.2.2.length 64 && (c.2.2.all fun p => (ab_iv c.2.1.2.2.1 p.1).isSome && (ab_iv c.2.1.2.2.1 p.2).isSome)) && ab_chk1 prog mt cd CS i Q mi cuts (some c.2.2) c.1 c.2.1
section CON
variable {l : Launch} {G : ax_T} {prog : List ax_MI} {mt : ab_MT} {cd : List (List Nat)} {CS : List ab_Q} {i : Nat} {Q : ab_Q} {mi : ax_MI} {cuts : List ab_CU}
/-- the method returns from here as the contract says -/
def ab_good (l : Launch) (G : ax_T) (mi : ax_MI) (d : Nat) (E : ab_E) (posts : List ab_S) (F : ax_F) : Prop := ∃ o, ax_retT mi.2.2.2.2.1 o.1 = true ∧ ab_Wd l G mi d o F ∧ ∃ P ∈ posts, ∃ V' cs ss, ab_g E P V' [] o.1.toList o.2.1 o.2.2 cs ss
theorem ab_cv_back {V0 V : List Value} (hx : ab_ext V0 V) (a : ab_V) (w : Value) (hw : ab_cv V a = some w) : ab_cv V0 a = some w ∨ ab_cv V0 a = none := by
  cases e : ab_cv V0 a with
  | none => exact Or.inr rfl
  | some v =>
    have := ab_ext_cv hx e
    rw [hw] at this
    cases this
    exact Or.inl rfl
theorem ab_go1 (hprog : ax_Prog prog) (hlow : ∀ c Q, c < i → CS[c]? = some Q → ab_QOk l G prog Q) (hmi : mi ∈ prog) {d : Nat} (hd : Q.2.1 - 1 ≤ d) {V : List Value} (hV : V.length ≤ Q.2.2.1.2.2.1.length) {h : ax_H} {n : Nat} {src : Option (List (ab_V × ab_V))} {pc : Nat} {S : ab_S} (hs : ab_chk1 prog mt cd CS i Q mi cuts src pc S = true) {V0 : List Value} (hx0 : ab_ext V V0) {lv : List (Nat × Value)} {st : List Value} {h' : ax_H} {n' cs ss : Nat} (hg : ab_g (V, h, n, Q.2.2.2.1) S V0 lv st h' n' cs ss) (hc1 : cs ≤ mi.2.2.2.2.2.2.1) (hc2 : ss ≤ mi.2.2.2.2.2.2.2.1)
    (hnext : ∀ c ∈ cuts, ∀ (V1 : List Value) (lv : List (Nat × Value)) (st : List Value) (h' : ax_H) (n' cs ss : Nat), ab_g (V, h, n, Q.2.2.2.1) c.2.1 V1 lv st h' n' cs ss → cs ≤ mi.2.2.2.2.2.2.1 → ss ≤ mi.2.2.2.2.2.2.2.1 → (∀ s, src = some s → s.length ≤ 64 → (∀ p ∈ s, (∃ w, ab_cv V0 p.1 = some w) ∧ ∃ w, ab_cv V0 p.2 = some w) → ab_enc V1 64 c.2.2 < ab_enc V0 64 s) → ab_good l G mi d (V, h, n, Q.2.2.2.1) Q.2.2.2.2 (c.1, lv, st, h', n', cs, ss)) :
    ab_good l G mi d (V, h, n, Q.2.2.2.1) Q.2.2.2.2 (pc, lv, st, h', n', cs, ss) := by
  unfold ab_chk1 at hs
  split at hs
  · rename_i L hL
    have hg0 : ab_g (V0, h, n, Q.2.2.2.1) S V0 lv st h' n' cs ss := by
      obtain ⟨g1, g2, g3, g4, g5, g6, g7, g8, g9⟩ := hg
      exact ⟨g1, g2, g3, g4, g5, g6, g7, g8, fun u v hu => hu⟩
    rcases ab_X_ok hprog hmi (ab_call_ok hprog hlow 8) hd _ _ _ _ _ hL _ _ _ _ _ _ _ hg0 hc1 hc2 with ⟨pc', S', hin, V1, lv1, st1, h1, n1, cs1, ss1, hg1, r1, r2, hW⟩ | ⟨S', hin, o, V1, hg1, ht, hW⟩
    · have ho := List.all_eq_true.mp hs _ hin
      simp only [ab_oc1] at ho
      obtain ⟨c, hc, hcc⟩ := List.any_eq_true.mp ho
      simp only [Bool.and_eq_true, Nat.beq_eq] at hcc
      obtain ⟨hpc, hfit⟩ := hcc
      split at hfit
      · rename_i z hz
        obtain ⟨S2, σ⟩ := z
        obtain ⟨V2, x2, hg2, he, hself⟩ := ab_fit_ok hg1 hz
        have x02 : ab_ext V0 V2 := hg2.2.2.2.2.2.2.2.2
        have hσ : ab_all V2 σ := by
          have he' := he
          unfold ab_ent at he'
          simp only [Bool.and_eq_true] at he'
          exact (ab_tyS_ok hg2.2.2.2.2.2.2.2.1.1.1 hg2.2.2.1 hg2.2.2.2.1 he'.1).1
        have hgT : ab_g (V, h, n, Q.2.2.2.1) c.2.1 (ab_vl V2 σ) lv1 st1 h1 n1 cs1 ss1 := ab_ent_ok hg2 he (ab_self_ok hself hV (fun u v hu => x02 u v (hx0 u v hu)))
        have hk := hnext c hc _ _ _ _ _ _ _ hgT r1 r2 (fun s es hl hv => by
          subst es
          exact ab_lex_ok hg2.2.2.1 hg2.2.2.2.1 hσ (ab_cv_back x02) 64 s c.2.2 hl hv hfit)
        obtain ⟨o, k1, k2, k3⟩ := hk
        rw [hpc] at k2
        exact ⟨o, k1, hW o k2, k3⟩
      · cases hfit
    · have ho := List.all_eq_true.mp hs _ hin
      simp only [ab_oc1] at ho
      obtain ⟨P, hP, hPP⟩ := List.any_eq_true.mp ho
      obtain ⟨z, hz⟩ := Option.isSome_iff_exists.mp hPP
      obtain ⟨S2, σ⟩ := z
      obtain ⟨V2, x2, hg2, he, hself⟩ := ab_fit_ok hg1 hz
      have x02 : ab_ext V0 V2 := hg2.2.2.2.2.2.2.2.2
      exact ⟨o, ht, hW, P, hP, _, 0, 0, ab_ent_ok hg2 he (ab_self_ok hself hV (fun u v hu => x02 u v (hx0 u v hu)))⟩
  · cases hs
theorem ab_con_ok (hprog : ax_Prog prog) (hlow : ∀ c Q, c < i → CS[c]? = some Q → ab_QOk l G prog Q) (hmi : prog[Q.1]? = some mi) (hD : Nat.ble 1 Q.2.1 = true) (hE : ab_chkE prog mt cd CS i Q mi cuts = true) (hC : ∀ c ∈ cuts, ab_chkC prog mt cd CS i Q mi cuts c = true) : ab_QOk l G prog Q := by
  intro mi' hmi' d hd V as h n hlen hg
  rw [hmi] at hmi'
  cases hmi'
  have hin : mi ∈ prog := List.mem_of_getElem? hmi
  have hD' : 1 ≤ Q.2.1 := by simpa [Nat.ble_eq] using hD
  obtain ⟨d, rfl⟩ : ∃ d', d = d' + 1 := ⟨d - 1, by omega⟩
  have hd' : Q.2.1 - 1 ≤ d := by omega
  have hV : V.length ≤ Q.2.2.1.2.2.1.length := Nat.le_of_eq hg.2.2.1.1
  have main : ∀ (N : Nat), ∀ c ∈ cuts, ∀ (V1 : List Value) (lv : List (Nat × Value)) (st : List Value) (h' : ax_H) (n' cs ss : Nat), ab_enc V1 64 c.2.2 < N → ab_g (V, h, n, Q.2.2.2.1) c.2.1 V1 lv st h' n' cs ss → cs ≤ mi.2.2.2.2.2.2.1 → ss ≤ mi.2.2.2.2.2.2.2.1 → ab_good l G mi d (V, h, n, Q.2.2.2.1) Q.2.2.2.2 (c.1, lv, st, h', n', cs, ss) := by
    intro N
    induction N with
    | zero => intro c hc V1 lv st h' n' cs ss hN; omega
    | succ N ih =>
      intro c hc V1 lv st h' n' cs ss hN hg1 r1 r2
      have h1 := hC c hc
      unfold ab_chkC at h1
      simp only [Bool.and_eq_true, Nat.ble_eq] at h1
      obtain ⟨⟨hl, hv⟩, hs⟩ := h1
      refine ab_go1 hprog hlow hin hd' hV hs hg1.2.2.2.2.2.2.2.2 hg1 r1 r2 (fun c' hc' V2 lv2 st2 h2 n2 cs2 ss2 hg2 q1 q2 hm => ?_)
      have hlt := hm c.2.2 rfl hl (fun p hp => by
        have h3 := List.all_eq_true.mp hv p hp
        simp only [Bool.and_eq_true] at h3
        obtain ⟨a, ha⟩ := Option.isSome_iff_exists.mp h3.1
        obtain ⟨b, hb⟩ := Option.isSome_iff_exists.mp h3.2
        obtain ⟨x, hx⟩ := ab_iv_cv hg1.2.2.1 ha
        obtain ⟨y, hy⟩ := ab_iv_cv hg1.2.2.1 hb
        exact ⟨⟨_, hx⟩, ⟨_, hy⟩⟩)
      exact ih c' hc' V2 lv2 st2 h2 n2 cs2 ss2 (by omega) hg2 q1 q2
  obtain ⟨o, h1, h2, P, hP, V', c', s', h3⟩ := ab_go1 hprog hlow hin hd' hV hE (fun u v hu => hu) hg (Nat.zero_le _) (Nat.zero_le _) (fun c hc V1 lv st h' n' cs ss hg1 r1 r2 _ => main _ c hc V1 lv st h' n' cs ss (Nat.lt_succ_self _) hg1 r1 r2)
  exact ⟨o, ab_Wd_call hprog hin hlen h1 h2, P, hP, V', c', s', h3⟩
end CON
