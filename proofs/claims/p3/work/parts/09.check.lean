/-! ===== a table of instructions, checked by the kernel ===== -/
def ax_has (j : Nat) (w : Cond) : Bool := decide (lw_tbl[j]? = some w) && goodWord w
theorem ax_has_ok {j : Nat} {w : Cond} (h : ax_has j w = true) : w ∈ ax_G := by
  simp only [ax_has, Bool.and_eq_true, decide_eq_true_eq] at h
  exact ax_G_in (List.mem_of_getElem? h.1) h.2
def ax_hasN (j : Nat) (w : Cond) : Bool := decide (lw_tbl[j]? = some w)
theorem ax_hasN_ok {j : Nat} {w : Cond} (h : ax_hasN j w = true) : w ∈ lw_tbl := List.mem_of_getElem? (of_decide_eq_true h)
def ax_lnk (plain : Bool) (j : Nat) (w wn : Cond) : Bool := bif plain then ax_has j w else ax_hasN j wn
theorem ax_lnkF_ok {b : Bool} {j idx : Nat} {own a1 a2 a3 host : String} (h : ax_lnk b j (.fieldLink own idx a1 a2 a3) (.fieldLinkNest own idx a1 a2 a3 host) = true) : Cond.fieldLink own idx a1 a2 a3 ∈ ax_G ∨ ∃ host, Cond.fieldLinkNest own idx a1 a2 a3 host ∈ lw_tbl := by
  cases b with
  | true => exact Or.inl (ax_has_ok h)
  | false => exact Or.inr ⟨host, ax_hasN_ok h⟩
theorem ax_lnkM_ok {b : Bool} {j idx : Nat} {own host : String} {y : MethodName} (h : ax_lnk b j (.methodLink own idx y) (.methodLinkNest own idx y host) = true) : Cond.methodLink own idx y ∈ ax_G ∨ ∃ host, Cond.methodLinkNest own idx y host ∈ lw_tbl := by
  cases b with
  | true => exact Or.inl (ax_has_ok h)
  | false => exact Or.inr ⟨host, ax_hasN_ok h⟩
def ax_chkW (prog : List ax_MI) (own nm : String) (i : Instr) (pe : ax_PE) (hs : List Nat) : Bool := match i with
  | .getfield idx => match ax_cl[pe.2.1]? with
    | some q => Nat.blt pe.2.2.1 q.2.2 && ax_lnk (pe.1 == 0) (hs.getD 0 0) (.fieldLink own idx (q.2.1 pe.2.2.1).1 (q.2.1 pe.2.2.1).2.1 (q.2.1 pe.2.2.1).2.2.1) (.fieldLinkNest own idx (q.2.1 pe.2.2.1).1 (q.2.1 pe.2.2.1).2.1 (q.2.1 pe.2.2.1).2.2.1 "LetterSums")
    | none => false
  | .putfield idx => match ax_cl[pe.2.1]? with
    | some q => Nat.blt pe.2.2.1 q.2.2 && (bif (q.2.1 pe.2.2.1).2.2.2 then ax_has (hs.getD 0 0) (.fieldLink own idx (q.2.1 pe.2.2.1).1 (q.2.1 pe.2.2.1).2.1 (q.2.1 pe.2.2.1).2.2.1) && (decide (nm = "<init>") && decide ((q.2.1 pe.2.2.1).1 = own))
        else ax_lnk (pe.1 == 0) (hs.getD 0 0) (.fieldLink own idx (q.2.1 pe.2.2.1).1 (q.2.1 pe.2.2.1).2.1 (q.2.1 pe.2.2.1).2.2.1) (.fieldLinkNest own idx (q.2.1 pe.2.2.1).1 (q.2.1 pe.2.2.1).2.1 (q.2.1 pe.2.2.1).2.2.1 "LetterSums"))
    | none => false
  | .getstatic idx => match ax_st[pe.2.1]? with
    | some z => ax_lnk (pe.1 == 0) (hs.getD 0 0) (.fieldLink own idx z.1 z.2.1 "[I") (.fieldLinkNest own idx z.1 z.2.1 "[I" "LetterSums")
    | none => false
  | .new idx => match ax_cl[pe.2.1]? with
    | some q => decide (q.2.2 = pe.2.2.1) && (ax_has (hs.getD 0 0) (.classLink own idx q.1) && (ax_has (hs.getD 1 0) (.instantiable q.1 pe.2.2.1) && (ax_has (hs.getD 2 0) (.initialized q.1) && ax_nofl pe.2.1 pe.2.2.1)))
    | none => false
  | .newarray a => ax_has (hs.getD 0 0) (.arrayClass (newarray.typeOf a)) && (decide (ax_tn[pe.2.1]? = some (newarray.typeOf a)) && (decide (a = .int) || decide (a = .byte)))
  | .anewarray idx => match ax_tc pe.2.1 with
    | some q => ax_has (hs.getD 0 0) (.classLink own idx q.2)
    | none => false
  | .ldc idx => ax_has (hs.getD 0 0) (.constant own idx (Int32.ofInt pe.2.2.2))
  | .ldc_w idx => ax_has (hs.getD 0 0) (.constant own idx (Int32.ofInt pe.2.2.2))
  | .ldc2_w idx => ax_has (hs.getD 0 0) (.constantLong own idx (Int64.ofInt pe.2.2.2))
  | .invokestatic idx => bif pe.1 == 9 then ax_has (hs.getD 0 0) (.methodLink own idx Lib.Math.min.name) && (ax_has (hs.getD 1 0) (.static Lib.Math.min.name) && (ax_has (hs.getD 2 0) (.initialized "java/lang/Math") && ax_has (hs.getD 3 0) (.code Lib.Math.min.name Lib.Math.min.code 2 (some .int))))
      else match prog[pe.2.1]? with
        | some mi => ax_has (hs.getD 0 0) (.static mi.2.1) && ax_lnk (pe.1 == 3) (hs.getD 1 0) (.methodLink own idx mi.2.1) (.methodLinkNest own idx mi.2.1 "LetterSums")
        | none => false
  | .invokevirtual idx => match prog[pe.2.1]?, ax_cl[pe.2.2.1]? with
    | some mi, some q => decide (q.1 = mi.2.1.cls) && (ax_has (hs.getD 0 0) (.instanceMethod mi.2.1) && (ax_has (hs.getD 1 0) (.selects mi.2.1.cls mi.2.1 mi.2.1) && ax_lnk (pe.1 == 3) (hs.getD 2 0) (.methodLink own idx mi.2.1) (.methodLinkNest own idx mi.2.1 "LetterSums")))
    | _, _ => false
  | .invokespecial idx => bif pe.1 == 8 then ax_has (hs.getD 0 0) (.methodLink own idx objectInit) && (ax_has (hs.getD 1 0) (.instanceMethod objectInit) && ax_has (hs.getD 2 0) (.code objectInit ⟨#[0xb1]⟩ 1 none))
      else match prog[pe.2.1]? with
        | some mi => decide (mi.2.1.name = "<init>") && (decide (mi.2.2.2.2.1 = none) && (ax_has (hs.getD 0 0) (.instanceMethod mi.2.1) && ax_lnk (pe.1 == 3) (hs.getD 1 0) (.methodLink own idx mi.2.1) (.methodLinkNest own idx mi.2.1 "LetterSums")))
        | none => false
  | _ => true
theorem ax_chkW_ok {prog : List ax_MI} {own nm : String} {i : Instr} {pe : ax_PE} {hs : List Nat} (h : ax_chkW prog own nm i pe hs = true) : ax_OkW prog own nm i pe := by
  cases i with
  | getfield idx =>
    simp only [ax_chkW] at h
    split at h
    · rename_i q hq
      simp only [Bool.and_eq_true, Nat.blt_eq] at h
      exact ⟨q.1, q.2.1, q.2.2, hq, h.1, ax_lnkF_ok h.2⟩
    · cases h
  | putfield idx =>
    simp only [ax_chkW] at h
    split at h
    · rename_i q hq
      simp only [Bool.and_eq_true, Nat.blt_eq] at h
      refine ⟨q.1, q.2.1, q.2.2, hq, h.1, ?_⟩
      have h2 := h.2
      cases e1 : (q.2.1 pe.2.2.1).2.2.2 with
      | true =>
        rw [e1] at h2
        simp only [cond_true, Bool.and_eq_true, decide_eq_true_eq] at h2
        exact Or.inr ⟨rfl, ax_has_ok h2.1, h2.2.1, h2.2.2⟩
      | false =>
        rw [e1] at h2
        exact Or.inl ⟨rfl, ax_lnkF_ok h2⟩
    · cases h
  | getstatic idx =>
    simp only [ax_chkW] at h
    split at h
    · rename_i z hz
      exact ⟨z, hz, ax_lnkF_ok h⟩
    · cases h
  | new idx =>
    simp only [ax_chkW] at h
    split at h
    · rename_i q hq
      simp only [Bool.and_eq_true, decide_eq_true_eq] at h
      obtain ⟨h1, h2, h3, h4, h5⟩ := h
      refine ⟨q.1, q.2.1, ?_, ax_has_ok h2, ax_has_ok h3, ax_has_ok h4, h5⟩
      rw [hq, ← h1]
    · cases h
  | newarray a =>
    simp only [ax_chkW, Bool.and_eq_true, Bool.or_eq_true, decide_eq_true_eq] at h
    exact ⟨ax_has_ok h.1, h.2.1, h.2.2⟩
  | anewarray idx =>
    simp only [ax_chkW] at h
    split at h
    · rename_i q hq
      refine ⟨q.2, ax_has_ok h, (ax_tc_ok (ci := q.1) hq).1, ?_⟩
      unfold ax_tc at hq
      split at hq
      · cases hq; exact Or.inl rfl
      · cases hq; exact Or.inr (Or.inl rfl)
      · cases hq; exact Or.inr (Or.inr rfl)
      · cases hq
    · cases h
  | ldc idx => exact ax_has_ok h
  | ldc_w idx => exact ax_has_ok h
  | ldc2_w idx => exact ax_has_ok h
  | invokestatic idx =>
    simp only [ax_chkW] at h
    cases e0 : pe.1 == 9 with
    | true =>
      simp only [e0, cond_true, Bool.and_eq_true] at h
      obtain ⟨h1, h2, h3, h4⟩ := h
      exact Or.inl ⟨by simpa using e0, ax_has_ok h1, ax_has_ok h2, ax_has_ok h3, ax_has_ok h4⟩
    | false =>
      simp only [e0, cond_false] at h
      split at h
      · rename_i mi hmi
        simp only [Bool.and_eq_true] at h
        exact Or.inr ⟨by simpa using e0, mi, hmi, ax_has_ok h.1, ax_lnkM_ok h.2⟩
      · cases h
  | invokevirtual idx =>
    simp only [ax_chkW] at h
    split at h
    · rename_i mi q hmi hq
      simp only [Bool.and_eq_true, decide_eq_true_eq] at h
      obtain ⟨h1, h2, h3, h4⟩ := h
      exact ⟨mi, q.2.1, q.2.2, hmi, by rw [hq, ← h1], ax_has_ok h2, ax_has_ok h3, ax_lnkM_ok h4⟩
    · cases h
  | invokespecial idx =>
    simp only [ax_chkW] at h
    cases e0 : pe.1 == 8 with
    | true =>
      simp only [e0, cond_true, Bool.and_eq_true] at h
      exact Or.inl ⟨by simpa using e0, ax_has_ok h.1, ax_has_ok h.2.1, ax_has_ok h.2.2⟩
    | false =>
      simp only [e0, cond_false] at h
      split at h
      · rename_i mi hmi
        simp only [Bool.and_eq_true, decide_eq_true_eq] at h
        obtain ⟨h1, h2, h3, h4⟩ := h
        exact Or.inr ⟨by simpa using e0, mi, hmi, h1, h2, ax_has_ok h3, ax_lnkM_ok h4⟩
      · cases h
  | _ => trivial
def ax_chkE (prog : List ax_MI) (own nm : String) (cc : ByteArray) (en : ax_EN) : Bool :=
  decide (decode cc en.1 = .ok (en.2.1, en.2.2.1)) && ((Nat.beq (ax_len en.2.1) 0 || Nat.beq en.2.2.1 (ax_len en.2.1)) && ax_chkW prog own nm en.2.1 en.2.2.2.1 en.2.2.2.2)
theorem ax_chkE_ok {prog : List ax_MI} {own nm : String} {cc : ByteArray} {en : ax_EN} (h : ax_chkE prog own nm cc en = true) : ax_Ok prog own nm cc en.1 en.2.1 en.2.2.1 en.2.2.2.1 := by
  simp only [ax_chkE, Bool.and_eq_true, Bool.or_eq_true, decide_eq_true_eq, Nat.beq_eq] at h
  exact ⟨h.1, h.2.1, ax_chkW_ok h.2.2⟩
/-- a method, with the places of its code and of its class among the tables' words -/
def ax_chkH (q : ax_MI × Nat × Nat) : Bool :=
  ax_has q.2.1 (.code q.1.2.1 q.1.2.2.1 q.1.2.2.2.1 q.1.2.2.2.2.1) && (ax_has q.2.2 (.initialized q.1.2.1.cls) && (decide (q.1.2.1.cls ≠ "java/lang/invoke/MethodHandle" ∧ q.1.2.1.cls ≠ "java/lang/invoke/VarHandle" ∧ (parseMethodDescriptor q.1.2.1.desc).map (fun d => d.parameters.length) = some q.1.2.2.2.2.2.1) && (Nat.ble q.1.2.2.2.1 21 &&
    (decide (q.1.1 = q.1.2.1.cls) && plainName q.1.2.1.cls))))
def ax_MOk (prog : List ax_MI) (mi : ax_MI) : Prop := ax_callee mi.2.1 mi.2.2.1 mi.2.2.2.1 mi.2.2.2.2.1 mi.2.2.2.2.2.1 ∧ mi.1 = mi.2.1.cls ∧ plainName mi.2.1.cls = true ∧ ∀ ch ∈ mi.2.2.2.2.2.2.2.2, ∀ en ∈ ch, ax_Ok prog mi.1 mi.2.1.name mi.2.2.1 en.1 en.2.1 en.2.2.1 en.2.2.2.1
theorem ax_MOk_of {prog : List ax_MI} {mi : ax_MI} {a b : Nat} (h : ax_chkH (mi, a, b) = true) (ht : ∀ ch ∈ mi.2.2.2.2.2.2.2.2, ch.all (ax_chkE prog mi.1 mi.2.1.name mi.2.2.1) = true) : ax_MOk prog mi := by
  simp only [ax_chkH, Bool.and_eq_true, decide_eq_true_eq, Nat.ble_eq] at h
  obtain ⟨h1, h2, h3, h4, h5, h6⟩ := h
  exact ⟨⟨ax_has_ok h1, ax_has_ok h2, h3, h4⟩, h5, h6, fun ch hch en hen => ax_chkE_ok (List.all_eq_true.mp (ht ch hch) en hen)⟩
