/-! ===== ways through a method ===== -/
/-- from here the method returns o -/
def ab_Wd (l : Launch) (G : ax_T) (mi : ax_MI) (d : Nat) (o : ax_O) (F : ax_F) : Prop := ∀ (p : Program) (e : Env) (s : State) (m : MethodId) (args : Array Value) (below : List Frame) (meth : Method) (c : Code), ax_M G p s m args meth c mi.1 mi.2.2.1 mi.2.2.2.1 → meth.name = mi.2.1.name → meth.sig.returnType = mi.2.2.2.2.1 →
  ax_WF G p l e (ax_rm (d + 1) mi.2.2.2.2.2.2.1 mi.2.2.2.2.2.2.2.1) s m args below meth c (MQ below (ax_Qc G o.1 (ax_hget o.2.1) o.2.2) args s mi.2.2.2.2.2.2.1 mi.2.2.2.2.2.2.2.1 (fun q => G.2.1 ≤ q)) mi.2.2.2.1 F
section WD
variable {l : Launch} {G : ax_T} {prog : List ax_MI} {mi : ax_MI} {d : Nat} {o : ax_O} {pc : Nat} {lv : List (Nat × Value)} {st : List Value} {h : ax_H} {n cs ss : Nat} {en : ax_EN}
def ab_io (G : ax_T) (u : Nat) : Int × Int := ((G.2.2.2.1 u).toInt, (G.2.2.2.1 u).toInt)
theorem ab_at_ok (hprog : ax_Prog prog) (hmi : mi ∈ prog) (ha : ax_at mi.2.2.2.2.2.2.2.2 pc = some en) : ax_Ok prog mi.1 mi.2.1.name mi.2.2.1 pc en.2.1 en.2.2.1 en.2.2.2.1 := by
  obtain ⟨hpc, ch, hch, hen⟩ := ax_at_ok ha
  have := (hprog mi hmi).2.2.2 ch hch en hen
  rw [hpc] at this
  exact this
theorem ab_Wd_step (hprog : ax_Prog prog) (hmi : mi ∈ prog) (ha : ax_at mi.2.2.2.2.2.2.2.2 pc = some en) {F : ax_F} (hs : ax_step (ab_io G) mi.2.2.2.1 en.2.1 en.2.2.2.1 pc lv st h n cs ss = some F) (h1 : F.2.2.2.2.2.1 ≤ mi.2.2.2.2.2.2.1) (h2 : F.2.2.2.2.2.2 ≤ mi.2.2.2.2.2.2.2.1) (hW : ab_Wd l G mi d o F) : ab_Wd l G mi d o (pc, lv, st, h, n, cs, ss) := by
  intro p e s m args below meth c M hnm hrt
  exact ax_step_ok M hnm (iv := ab_io G) (fun u => ⟨Int.le_refl _, Int.le_refl _⟩) (ab_at_ok hprog hmi ha) hs ⟨h1, h2, Nat.le_add_left 1 d, by show 40 ≤ 40 * (d + 1); omega⟩ (hW p e s m args below meth c M hnm hrt)
theorem ab_Wd_inv (hprog : ax_Prog prog) (hmi : mi ∈ prog) (ha : ax_at mi.2.2.2.2.2.2.2.2 pc = some en) {q : ax_MI × List Value × List Value} (hq : ax_inv prog en.2.1 en.2.2.2.1 st h = some q) {o1 : ax_O} (hM : ab_M l G d q.1 q.2.1 h n o1) (h1 : cs + q.1.2.2.2.2.2.2.1 ≤ mi.2.2.2.2.2.2.1) (h2 : ss + q.1.2.2.2.2.2.2.2.1 ≤ mi.2.2.2.2.2.2.2.1)
    (hW : ab_Wd l G mi d o (pc + 3, lv, o1.1.toList ++ q.2.2, o1.2.1, o1.2.2, cs + q.1.2.2.2.2.2.2.1, ss + q.1.2.2.2.2.2.2.2.1)) : ab_Wd l G mi d o (pc, lv, st, h, n, cs, ss) := by
  intro p e s m args below meth c M hnm hrt
  exact ax_inv_ok hprog M (ab_at_ok hprog hmi ha) hq (fun _ => hM.1) (Nat.le_refl _) (Nat.le_refl _) h1 h2 (hW p e s m args below meth c M hnm hrt) hM.2
theorem ab_Wd_ret (hprog : ax_Prog prog) (hmi : mi ∈ prog) (ha : ax_at mi.2.2.2.2.2.2.2.2 pc = some en) {r : Option Value} (hr : ax_rets en.2.1 st = some r) (ht : ax_retT mi.2.2.2.2.1 r = true) (h1 : cs ≤ mi.2.2.2.2.2.2.1) (h2 : ss ≤ mi.2.2.2.2.2.2.2.1) : ab_Wd l G mi d (r, h, n) (pc, lv, st, h, n, cs, ss) := by
  intro p e s m args below meth c M hnm hrt
  have hok := ab_at_ok hprog hmi ha
  exact ax_ret_ok M hrt hok.1 hok.2.1 hr ht h1 h2
theorem ab_Wd_call (hprog : ax_Prog prog) (hmi : mi ∈ prog) {as : List Value} (hlen : (lg_sl as).length ≤ mi.2.2.2.1) (ht : ax_retT mi.2.2.2.2.1 o.1 = true) (hW : ab_Wd l G mi d o (0, lv_args 0 as, [], h, n, 0, 0)) : ab_M l G (d + 1) mi as h n o := by
  obtain ⟨hcal, hcls, hplain, -⟩ := hprog mi hmi
  refine ⟨?_, fun hn => ?_⟩
  · unfold ax_Met
    refine Met.ofW (cc := mi.2.2.1) (maxL := mi.2.2.2.1) (ret := mi.2.2.2.2.1) hplain rfl ?_
    intro p e s m args below meth c s₁ B hml hv
    obtain ⟨rfl, hX, hRel⟩ := hv
    have hts := atoms_spec (ws := Cond.code mi.2.1 mi.2.2.1 mi.2.2.2.1 mi.2.2.2.2.1 :: ax_G) B.pre
    have hown : s.vm.findClass mi.2.1.cls = some m.cls := findClass_of_methodNamed B.named
    have M : ax_M G p s m (as.map (ax_v G)).toArray meth c mi.1 mi.2.2.1 mi.2.2.2.1 := ⟨B.exec, B.bytes, hml, by rw [hcls]; exact hown, fun w hw => hts w (List.mem_cons_of_mem _ hw), B.notSynchronized, hX⟩
    have hl := lv_entry (as.map (ax_v G)) (n := mi.2.2.2.1) (by rw [ax_sl_len]; exact hlen)
    rw [lg_entry_eq]
    rw [ax_args_map] at hl
    exact hW p e s m _ below meth c M (name_of_methodNamed B.named B.method).1 B.returns _ s.heap [] hl hRel (fun q hq => by cases hq)
  · rw [hn] at ht
    cases e1 : o.1 with
    | none => rfl
    | some v => rw [e1] at ht; cases ht
end WD
/-- an outcome: a cut is reached, or the method returns -/
abbrev ab_OC : Type := (Nat × ab_S) ⊕ ab_S
/-- level, method's number, method, state, arguments, rest of the stack -/
abbrev ab_CL : Type := Nat → Nat → ax_MI → ab_S → List ab_V → List ab_V → Option (List ab_S)
def ab_bind {α β : Type} (f : α → Option (List β)) : List α → Option (List β)
  | [] => some []
  | a :: L => match f a, ab_bind f L with
    | some x, some y => some (x ++ y)
    | _, _ => none
theorem ab_bind_in {α β : Type} {f : α → Option (List β)} {a : α} : ∀ {L : List α} {M : List β}, ab_bind f L = some M → a ∈ L → ∃ x, f a = some x ∧ ∀ b ∈ x, b ∈ M
  | [], _, _, ha => by cases ha
  | c :: L, M, hs, ha => by
    unfold ab_bind at hs
    split at hs
    · rename_i x y hx hy
      cases hs
      rcases List.mem_cons.mp ha with rfl | ha
      · exact ⟨x, hx, fun b hb => List.mem_append_left _ hb⟩
      · obtain ⟨z, h1, h2⟩ := ab_bind_in hy ha
        exact ⟨z, h1, fun b hb => List.mem_append_right _ (h2 b hb)⟩
    · cases hs
/-- a symbol is a known number -/
def ab_rp (u : Nat) (c : Int) (a : ab_V) : ab_V := bif ab_veq a (ab_symV u) then .inl c else a
def ab_fix (S : ab_S) (u : Nat) (f : Nat) (c : Int) : ab_S := (S.1.map (fun q => (q.1, ab_rp u c q.2)), S.2.1, S.2.2.1.set u (.inl (c, c, f)), S.2.2.2.1, S.2.2.2.2.1.map (fun q => (q.1, q.2.1, ab_rp u c q.2.2)), S.2.2.2.2.2)
def ab_spk (f : Nat) (c : Int) : Bool := !(Nat.beq f 3) || ab_let.any fun z => decide (z = c)
def ab_spv (S : ab_S) (u : Nat) : Option (List ab_S) := match S.2.2.1[u]? with
  | some (.inl (lo, hi, f)) => bif decide (hi - lo ≤ 100) then some (((List.range ((hi - lo).toNat + 1)).filter fun (j : Nat) => ab_spk f (lo + (j : Int))).map fun (j : Nat) => ab_fix S u f (lo + (j : Int))) else some [S]
  | _ => none
def ab_spl (S : ab_S) (z : Nat ⊕ (Nat × Nat)) : Option (List ab_S) := match z with
  | .inl k => (match ab_lk S.1 k with
    | some (.inr (.inl u)) => ab_spv S u
    | _ => some [S])
  | .inr (k, j) => (match ab_fd (ab_gho S (.inr (.inr (.inl k))) j).2.2.2.2.1 (.inr (.inr (.inl k))) (.inl j) with
    | some (.inr (.inl u)) => ab_spv (ab_gho S (.inr (.inr (.inl k))) j) u
    | _ => some [ab_gho S (.inr (.inr (.inl k))) j])
def ab_sps (sp : List (Nat × (Nat ⊕ (Nat × Nat)))) (pc : Nat) (S : ab_S) : Option (List ab_S) := match sp.find? (fun q => Nat.beq q.1 pc) with
  | some q => ab_spl S q.2
  | none => some [S]
section SPL
variable {E : ab_E} {S : ab_S} {V : List Value} {lv : List (Nat × Value)} {st : List Value} {h : ax_H} {n cs ss : Nat}
theorem ab_rp_cv {u : Nat} {x : Int32} (hu : V[u]? = some (.int x)) (a : ab_V) : ab_cv V (ab_rp u x.toInt a) = ab_cv V a := by
  unfold ab_rp
  cases e : ab_veq a (ab_symV u) with
  | false => rfl
  | true =>
    have h1 := ab_veq_ok e
    subst h1
    have hr : ab_rng x.toInt = true := by
      rw [ab_rng_iff]
      have h1 := x.le_toInt
      have h2 := x.toInt_lt
      omega
    show (bif ab_rng x.toInt then some (Value.int (Int32.ofInt x.toInt)) else none) = V[u]?
    rw [hr, hu, Int32.ofInt_toInt]
    rfl
theorem ab_lk_map (f : ab_V → ab_V) (k : Nat) : ∀ (L : List (Nat × ab_V)), ab_lk (L.map fun q => (q.1, f q.2)) k = (ab_lk L k).map f
  | [] => rfl
  | q :: L => by
    have ih := ab_lk_map f k L
    unfold ab_lk at ih ⊢
    rw [List.map_cons, List.find?_cons, List.find?_cons]
    cases e : Nat.beq q.1 k with
    | true => simp only [e]; rfl
    | false => simp only [e]; exact ih
theorem ab_fix_ok (hg : ab_g E S V lv st h n cs ss) {u f : Nat} {lo hi : Int} (hu : S.2.2.1[u]? = some (.inl (lo, hi, f))) : ∃ x : Int32, lo ≤ x.toInt ∧ x.toInt ≤ hi ∧ ab_spk f x.toInt = true ∧ ab_g E (ab_fix S u f x.toInt) V lv st h n cs ss := by
  obtain ⟨g1, g2, g3, g4, g5, g6, g7, g8, g9⟩ := hg
  obtain ⟨w, hw, x, rfl, h1, h2, h3⟩ := g3.2 u _ hu
  have hk3 : ab_spk f x.toInt = true := by
    unfold ab_spk
    cases e : Nat.beq f 3 with
    | false => rfl
    | true =>
      have : f = 3 := by simpa [Nat.beq_eq] using e
      subst this
      have h4 : x.toInt ∈ ab_let := h3
      rw [List.any_eq_true.mpr ⟨x.toInt, h4, decide_eq_true rfl⟩]
      rfl
  refine ⟨x, h1, h2, hk3, fun k a hk => ?_, g2, ⟨?_, fun j τ hj => ?_⟩, g4, fun q hq => ?_, g6, g7, g8, g9⟩
  · have hk' : (ab_lk S.1 k).map (ab_rp u x.toInt) = some a := by rw [← ab_lk_map]; exact hk
    obtain ⟨b, hb, rfl⟩ := Option.map_eq_some_iff.mp hk'
    obtain ⟨v, e1, e2⟩ := g1 k b hb
    exact ⟨v, e1, by rw [ab_rp_cv hw]; exact e2⟩
  · show V.length = (S.2.2.1.set u _).length
    rw [List.length_set]; exact g3.1
  · have hj' : (S.2.2.1.set u (.inl (x.toInt, x.toInt, f)))[j]? = some τ := hj
    by_cases e : u = j
    · subst e
      have hlt : u < S.2.2.1.length := (List.getElem?_eq_some_iff.mp hu).1
      rw [List.getElem?_set_self hlt] at hj'
      cases hj'
      exact ⟨_, hw, x, rfl, Int.le_refl _, Int.le_refl _, h3⟩
    · rw [List.getElem?_set_ne e] at hj'
      exact g3.2 j τ hj'
  · obtain ⟨q0, hq0, rfl⟩ := List.mem_map.mp hq
    rcases g5 q0 hq0 with ⟨k, y, w, f1, f2, f3, f4⟩ | ⟨y, z, w, f1, f2, f3, f4⟩
    · exact Or.inl ⟨k, y, w, f1, f2, by rw [ab_rp_cv hw]; exact f3, f4⟩
    · exact Or.inr ⟨y, z, w, f1, f2, by rw [ab_rp_cv hw]; exact f3, f4⟩
theorem ab_spv_ok (hg : ab_g E S V lv st h n cs ss) {u : Nat} {L : List ab_S} (hs : ab_spv S u = some L) : ∃ R ∈ L, ab_g E R V lv st h n cs ss := by
  unfold ab_spv at hs
  split at hs
  · rename_i lo hi f hu
    cases e : decide (hi - lo ≤ 100) with
    | false =>
      rw [e] at hs
      cases hs
      exact ⟨S, List.mem_singleton.mpr rfl, hg⟩
    | true =>
      rw [e] at hs
      cases hs
      obtain ⟨x, h1, h2, hk, h3⟩ := ab_fix_ok hg hu
      have hx : lo + ((x.toInt - lo).toNat : Int) = x.toInt := by omega
      refine ⟨_, List.mem_map.mpr ⟨(x.toInt - lo).toNat, List.mem_filter.mpr ⟨List.mem_range.mpr (by omega), ?_⟩, rfl⟩, ?_⟩
      · rw [hx]; exact hk
      · rw [hx]; exact h3
  · cases hs
theorem ab_sps_ok (hg : ab_g E S V lv st h n cs ss) {sp : List (Nat × (Nat ⊕ (Nat × Nat)))} {pc : Nat} {L : List ab_S} (hs : ab_sps sp pc S = some L) : ∃ R ∈ L, ∃ V', ab_g E R V' lv st h n cs ss := by
  unfold ab_sps at hs
  split at hs
  · rename_i q hq
    obtain ⟨pc', z⟩ := q
    cases z with
    | inl k =>
      simp only [ab_spl] at hs
      split at hs
      · obtain ⟨R, h1, h2⟩ := ab_spv_ok hg hs
        exact ⟨R, h1, V, h2⟩
      · cases hs
        exact ⟨S, List.mem_singleton.mpr rfl, V, hg⟩
    | inr kj =>
      obtain ⟨k, j⟩ := kj
      obtain ⟨V', -, hg'⟩ := ab_gho_ok hg (.inr (.inr (.inl k))) j
      simp only [ab_spl] at hs
      split at hs
      · obtain ⟨R, h1, h2⟩ := ab_spv_ok hg' hs
        exact ⟨R, h1, V', h2⟩
      · cases hs
        exact ⟨_, List.mem_singleton.mpr rfl, V', hg'⟩
  · cases hs
    exact ⟨S, List.mem_singleton.mpr rfl, V, hg⟩
end SPL
