/-! ===== all ways from a place of a method to its cuts and returns ===== -/
def ab_isr (i : Instr) : Bool := match i with
  | .ireturn => true
  | .lreturn => true
  | .return_ => true
  | _ => false
/-- what is returned -/
def ab_rtn (ret : Option FieldType) (i : Instr) (S : ab_S) : Option ab_S := match i, S.2.1, ret with
  | .ireturn, [a], some .int => (match ab_iv S.2.2.1 a with
    | some _ => some ([], [a], S.2.2.1, S.2.2.2.1, S.2.2.2.2.1, S.2.2.2.2.2.1, 0, 0)
    | none => none)
  | .ireturn, [a], some .boolean => (match ab_iv S.2.2.1 a with
    | some p => bif decide (0 ≤ p.1) && decide (p.2 ≤ 1) then some ([], [a], S.2.2.1, S.2.2.2.1, S.2.2.2.2.1, S.2.2.2.2.2.1, 0, 0) else none
    | none => none)
  | .lreturn, [a], some .long => (match ab_kd S.2.2.1 a with
    | some 2 => some ([], [a], S.2.2.1, S.2.2.2.1, S.2.2.2.2.1, S.2.2.2.2.2.1, 0, 0)
    | _ => none)
  | .return_, [], none => some ([], [], S.2.2.1, S.2.2.2.1, S.2.2.2.2.1, S.2.2.2.2.2.1, 0, 0)
  | _, _, _ => none
section RTN
variable {E : ab_E} {S : ab_S} {V : List Value} {lv : List (Nat × Value)} {st : List Value} {h : ax_H} {n cs ss : Nat}
theorem ab_rtn_g (hg : ab_g E S V lv st h n cs ss) {sa : List ab_V} {r : Option Value} (hs : ab_stR V sa r.toList) : ab_g E ([], sa, S.2.2.1, S.2.2.2.1, S.2.2.2.2.1, S.2.2.2.2.2.1, 0, 0) V [] r.toList h n 0 0 := by
  obtain ⟨g1, g2, g3, g4, g5, g6, g7, g8, g9⟩ := hg
  exact ⟨fun k a hk => (by cases hk), hs, g3, g4, g5, g6, ⟨rfl, rfl⟩, g8, g9⟩
theorem ab_rtn_ok (hg : ab_g E S V lv st h n cs ss) {ret : Option FieldType} {i : Instr} {R : ab_S} (hs : ab_rtn ret i S = some R) : ∃ r, ax_rets i st = some r ∧ ax_retT ret r = true ∧ ab_g E R V [] r.toList h n 0 0 := by
  have g2 := hg.2.1
  have g3 := hg.2.2.1
  unfold ab_rtn at hs
  split at hs
  · rename_i a e
    rw [e] at g2
    split at hs
    · rename_i p hp
      cases hs
      match st, g2 with
      | [v], g2 =>
        obtain ⟨x, rfl, -⟩ := ab_iv_ok g3 hp g2.1
        exact ⟨some (.int x), rfl, rfl, ab_rtn_g hg (r := some (.int x)) g2⟩
      | [], g2 => exact g2.elim
      | _ :: _ :: _, g2 => exact g2.2.elim
    · cases hs
  · rename_i a e
    rw [e] at g2
    split at hs
    · rename_i p hp
      obtain ⟨hb, hs2⟩ := ab_bif hs
      simp only [Bool.and_eq_true, decide_eq_true_eq] at hb
      cases hs2
      match st, g2 with
      | [v], g2 =>
        obtain ⟨x, rfl, h1, h2⟩ := ab_iv_ok g3 hp g2.1
        refine ⟨some (.int x), rfl, ?_, ab_rtn_g hg (r := some (.int x)) g2⟩
        have hx : x.toInt = 0 ∨ x.toInt = 1 := by omega
        show (x == 0 || x == 1) = true
        rcases hx with hx | hx
        · have : x = 0 := Int32.toInt_inj.mp hx
          subst this; rfl
        · have : x = 1 := Int32.toInt_inj.mp hx
          subst this; rfl
      | [], g2 => exact g2.elim
      | _ :: _ :: _, g2 => exact g2.2.elim
    · cases hs
  · rename_i a e
    rw [e] at g2
    split at hs
    · rename_i hk
      cases hs
      match st, g2 with
      | [v], g2 =>
        obtain ⟨x, rfl⟩ := ab_kd2 g3 g2.1 hk
        exact ⟨some (.long x), rfl, rfl, ab_rtn_g hg (r := some (.long x)) g2⟩
      | [], g2 => exact g2.elim
      | _ :: _ :: _, g2 => exact g2.2.elim
    · cases hs
  · rename_i e
    rw [e] at g2
    cases hs
    match st, g2 with
    | [], g2 => exact ⟨none, rfl, rfl, ab_rtn_g hg (r := none) g2⟩
    | _ :: _, g2 => exact g2.elim
  · cases hs
end RTN
def ab_room (mi : ax_MI) (S : ab_S) : Bool := Nat.ble S.2.2.2.2.2.2.1 mi.2.2.2.2.2.2.1 && Nat.ble S.2.2.2.2.2.2.2 mi.2.2.2.2.2.2.2.1
/-- one instruction, then on by nx -/
def ab_X1 (prog : List ax_MI) (cl : ab_CL) (md : List (Nat × Int)) (sm : Bool) (mi : ax_MI) (k : Nat) (nx : Nat → ab_S → Option (List ab_OC)) (e : ax_EN) (pc : Nat) (S : ab_S) : Option (List ab_OC) :=
  bif ab_isr e.2.1 then (match ab_rtn mi.2.2.2.2.1 e.2.1 S with
    | some R => some [.inr R]
    | none => none)
  else match ab_inv prog e.2.1 e.2.2.2.1 S with
    | some q => (match cl k q.1 q.2.1 S q.2.2.1 q.2.2.2 with
      | some L => ab_bind (fun R => bif ab_room mi R then nx (pc + 3) R else none) L
      | none => none)
    | none => (match ab_step md sm mi.2.2.2.1 e.2.1 e.2.2.2.1 pc S with
      | some L => ab_bind (fun q => bif ab_room mi q.2 then nx q.1 q.2 else none) L
      | none => none)
def ab_X (prog : List ax_MI) (cl : ab_CL) (md : List (Nat × Int)) (sm : Bool) (sp : List (Nat × (Nat ⊕ (Nat × Nat)))) (mi : ax_MI) (cut : Nat → Bool) (k : Nat) : Nat → Bool → Nat → ab_S → Option (List ab_OC)
  | 0, _, _, _ => none
  | f + 1, first, pc, S => bif !first && cut pc then some [.inl (pc, S)] else match ax_at mi.2.2.2.2.2.2.2.2 pc with
    | none => none
    | some e => (match ab_sps sp pc S with
      | some Ss => ab_bind (fun S => ab_X1 prog cl md sm mi k (fun pc S => ab_X prog cl md sm sp mi cut k f false pc S) e pc S) Ss
      | none => none)
/-- abstract calls are right -/
def ab_clOk (l : Launch) (G : ax_T) (prog : List ax_MI) (md : List (Nat × Int)) (cl : ab_CL) : Prop := ∀ (k j : Nat) (mi : ax_MI) (S : ab_S) (vs rest : List ab_V) (L : List ab_S), prog[j]? = some mi → cl k j mi S vs rest = some L → ∀ (d : Nat), k ≤ d → ∀ (W : List Value) (h0 : ax_H) (n0 : Nat) (V : List Value) (lv : List (Nat × Value)) (st as rst : List Value) (h : ax_H) (n cs ss : Nat),
  ab_g (W, h0, n0, md) S V lv st h n cs ss → ab_stR V vs as → ab_stR V rest rst → ∃ o, ab_M l G d mi as h n o ∧ ∃ R ∈ L, ∃ V', ab_g (W, h0, n0, md) R V' lv (o.1.toList ++ rst) o.2.1 o.2.2 (cs + mi.2.2.2.2.2.2.1) (ss + mi.2.2.2.2.2.2.2.1)
section WAY
variable {l : Launch} {G : ax_T} {prog : List ax_MI} {mi : ax_MI} {d : Nat} {md : List (Nat × Int)} {cl : ab_CL} {sm : Bool} {sp : List (Nat × (Nat ⊕ (Nat × Nat)))} {cut : Nat → Bool} {k : Nat} {W : List Value} {h0 : ax_H} {n0 : Nat}
/-- a cut is reached, or it returns -/
def ab_res (l : Launch) (G : ax_T) (mi : ax_MI) (d : Nat) (E : ab_E) (L : List ab_OC) (F : ax_F) : Prop :=
  (∃ pc S, Sum.inl (pc, S) ∈ L ∧ ∃ V lv st h n cs ss, ab_g E S V lv st h n cs ss ∧ cs ≤ mi.2.2.2.2.2.2.1 ∧ ss ≤ mi.2.2.2.2.2.2.2.1 ∧ ∀ o, ab_Wd l G mi d o (pc, lv, st, h, n, cs, ss) → ab_Wd l G mi d o F) ∨
  (∃ S, Sum.inr S ∈ L ∧ ∃ o V, ab_g E S V [] o.1.toList o.2.1 o.2.2 0 0 ∧ ax_retT mi.2.2.2.2.1 o.1 = true ∧ ab_Wd l G mi d o F)
theorem ab_res_mono {E : ab_E} {L M : List ab_OC} {F F' : ax_F} (hL : ∀ b ∈ L, b ∈ M) (hF : ∀ o, ab_Wd l G mi d o F → ab_Wd l G mi d o F') (h : ab_res l G mi d E L F) : ab_res l G mi d E M F' := by
  rcases h with ⟨pc, S, h1, V, lv, st, h, n, cs, ss, h2, h3, h4, h5⟩ | ⟨S, h1, o, V, h2, h3, h4⟩
  · exact Or.inl ⟨pc, S, hL _ h1, V, lv, st, h, n, cs, ss, h2, h3, h4, fun o ho => hF o (h5 o ho)⟩
  · exact Or.inr ⟨S, hL _ h1, o, V, h2, h3, hF o h4⟩
theorem ab_X1_ok (hprog : ax_Prog prog) (hmi : mi ∈ prog) (hcl : ab_clOk l G prog md cl) (hk : k ≤ d) {nx : Nat → ab_S → Option (List ab_OC)}
    (hnx : ∀ (pc : Nat) (S : ab_S) (L : List ab_OC), nx pc S = some L → ∀ (V : List Value) (lv : List (Nat × Value)) (st : List Value) (h : ax_H) (n cs ss : Nat), ab_g (W, h0, n0, md) S V lv st h n cs ss → cs ≤ mi.2.2.2.2.2.2.1 → ss ≤ mi.2.2.2.2.2.2.2.1 → ab_res l G mi d (W, h0, n0, md) L (pc, lv, st, h, n, cs, ss))
    {en : ax_EN} {pc : Nat} (ha : ax_at mi.2.2.2.2.2.2.2.2 pc = some en) {S : ab_S} {L : List ab_OC} (hs : ab_X1 prog cl md sm mi k nx en pc S = some L) {V : List Value} {lv : List (Nat × Value)} {st : List Value} {h : ax_H} {n cs ss : Nat} (hg : ab_g (W, h0, n0, md) S V lv st h n cs ss) (hc1 : cs ≤ mi.2.2.2.2.2.2.1) (hc2 : ss ≤ mi.2.2.2.2.2.2.2.1) :
    ab_res l G mi d (W, h0, n0, md) L (pc, lv, st, h, n, cs, ss) := by
  unfold ab_X1 at hs
  cases er : ab_isr en.2.1 with
  | true =>
    rw [er] at hs
    simp only [cond_true] at hs
    split at hs
    · rename_i R hR
      cases hs
      obtain ⟨r, h1, h2, h3⟩ := ab_rtn_ok hg hR
      exact Or.inr ⟨R, List.mem_singleton.mpr rfl, (r, h, n), V, h3, h2, ab_Wd_ret hprog hmi ha h1 h2 hc1 hc2⟩
    · cases hs
  | false =>
    rw [er] at hs
    simp only [cond_false] at hs
    split at hs
    · rename_i q hq
      obtain ⟨j, mj, vs, rest⟩ := q
      obtain ⟨hj, as, rst, h1, h2, h3⟩ := ab_inv_ok hg hq
      split at hs
      · rename_i M hM
        obtain ⟨o, h4, R, hR, V', h5⟩ := hcl k j mj S vs rest M hj hM d hk W h0 n0 V lv st as rst h n cs ss hg h2 h3
        obtain ⟨x, hx1, hx2⟩ := ab_bind_in hs hR
        obtain ⟨hb1, hb2⟩ := ab_bif hx1
        simp only [ab_room, Bool.and_eq_true, Nat.ble_eq] at hb1
        have e7 := h5.2.2.2.2.2.2.1
        have r1 : cs + mj.2.2.2.2.2.2.1 ≤ mi.2.2.2.2.2.2.1 := by rw [e7.1]; exact hb1.1
        have r2 : ss + mj.2.2.2.2.2.2.2.1 ≤ mi.2.2.2.2.2.2.2.1 := by rw [e7.2]; exact hb1.2
        exact ab_res_mono hx2 (fun o' ho' => ab_Wd_inv hprog hmi ha h1 h4 r1 r2 ho') (hnx _ _ _ hb2 V' lv _ _ _ _ _ h5 r1 r2)
      · cases hs
    · split at hs
      · rename_i M hM
        obtain ⟨F, h1, q, hq, h2, V', h3⟩ := ab_step_ok (iv := ab_io G) hg hM
        obtain ⟨x, hx1, hx2⟩ := ab_bind_in hs hq
        obtain ⟨hb1, hb2⟩ := ab_bif hx1
        simp only [ab_room, Bool.and_eq_true, Nat.ble_eq] at hb1
        have e7 := h3.2.2.2.2.2.2.1
        have r1 : F.2.2.2.2.2.1 ≤ mi.2.2.2.2.2.2.1 := by rw [e7.1]; exact hb1.1
        have r2 : F.2.2.2.2.2.2 ≤ mi.2.2.2.2.2.2.2.1 := by rw [e7.2]; exact hb1.2
        obtain ⟨fpc, flv, fst', fh, fn, fcs, fss⟩ := F
        have h2' : fpc = q.1 := h2
        subst h2'
        exact ab_res_mono hx2 (fun o' ho' => ab_Wd_step hprog hmi ha h1 r1 r2 ho') (hnx _ _ _ hb2 V' _ _ _ _ _ _ h3 r1 r2)
      · cases hs
theorem ab_X_ok (hprog : ax_Prog prog) (hmi : mi ∈ prog) (hcl : ab_clOk l G prog md cl) (hk : k ≤ d) : ∀ (f : Nat) (first : Bool) (pc : Nat) (S : ab_S) (L : List ab_OC), ab_X prog cl md sm sp mi cut k f first pc S = some L → ∀ (V : List Value) (lv : List (Nat × Value)) (st : List Value) (h : ax_H) (n cs ss : Nat), ab_g (W, h0, n0, md) S V lv st h n cs ss → cs ≤ mi.2.2.2.2.2.2.1 → ss ≤ mi.2.2.2.2.2.2.2.1 → ab_res l G mi d (W, h0, n0, md) L (pc, lv, st, h, n, cs, ss) := by
  intro f
  induction f with
  | zero => intro first pc S L hs; cases hs
  | succ f ih =>
    intro first pc S L hs V lv st h n cs ss hg hc1 hc2
    rw [ab_X] at hs
    cases ec : (!first && cut pc) with
    | true =>
      rw [ec] at hs
      cases hs
      exact Or.inl ⟨pc, S, List.mem_singleton.mpr rfl, V, lv, st, h, n, cs, ss, hg, hc1, hc2, fun o ho => ho⟩
    | false =>
      rw [ec] at hs
      simp only [cond_false] at hs
      split at hs
      · cases hs
      · rename_i en ha
        split at hs
        · rename_i Ss hSs
          obtain ⟨R, hR, V', hg'⟩ := ab_sps_ok hg hSs
          obtain ⟨x, hx1, hx2⟩ := ab_bind_in hs hR
          exact ab_res_mono hx2 (fun o ho => ho) (ab_X1_ok hprog hmi hcl hk (fun pc S L hL V lv st h n cs ss => ih false pc S L hL V lv st h n cs ss) ha hx1 hg' hc1 hc2)
        · cases hs
end WAY
