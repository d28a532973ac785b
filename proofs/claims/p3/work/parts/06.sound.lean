/-! ===== one step is the machine's ===== -/
def ax_len : Instr → Nat
  | .bipush _ => 2
  | .sipush _ => 3
  | .ldc _ => 2
  | .ldc_w _ => 3
  | .ldc2_w _ => 3
  | .iload _ => 2
  | .aload _ => 2
  | .lload _ => 2
  | .istore _ => 2
  | .astore _ => 2
  | .lstore _ => 2
  | .iinc _ _ => 3
  | .goto _ => 3
  | .ifCond _ _ => 3
  | .if_icmp _ _ => 3
  | .getfield _ => 3
  | .putfield _ => 3
  | .getstatic _ => 3
  | .new _ => 3
  | .newarray _ => 2
  | .anewarray _ => 3
  | .invokespecial _ => 3
  | .invokestatic _ => 3
  | .invokevirtual _ => 3
  | .tableswitch _ _ _ _ => 0
  | .lookupswitch _ _ => 0
  | _ => 1
def ax_OkW (prog : List ax_MI) (own nm : String) (i : Instr) (pe : ax_PE) : Prop := match i with
  | .getfield idx => ∃ C T N, ax_cl[pe.2.1]? = some (C, T, N) ∧ pe.2.2.1 < N ∧ (Cond.fieldLink own idx (T pe.2.2.1).1 (T pe.2.2.1).2.1 (T pe.2.2.1).2.2.1 ∈ ax_G ∨ ∃ host, Cond.fieldLinkNest own idx (T pe.2.2.1).1 (T pe.2.2.1).2.1 (T pe.2.2.1).2.2.1 host ∈ lw_tbl)
  | .putfield idx => ∃ C T N, ax_cl[pe.2.1]? = some (C, T, N) ∧ pe.2.2.1 < N ∧ (((T pe.2.2.1).2.2.2 = false ∧ (Cond.fieldLink own idx (T pe.2.2.1).1 (T pe.2.2.1).2.1 (T pe.2.2.1).2.2.1 ∈ ax_G ∨ ∃ host, Cond.fieldLinkNest own idx (T pe.2.2.1).1 (T pe.2.2.1).2.1 (T pe.2.2.1).2.2.1 host ∈ lw_tbl)) ∨
      ((T pe.2.2.1).2.2.2 = true ∧ Cond.fieldLink own idx (T pe.2.2.1).1 (T pe.2.2.1).2.1 (T pe.2.2.1).2.2.1 ∈ ax_G ∧ nm = "<init>" ∧ (T pe.2.2.1).1 = own))
  | .getstatic idx => ∃ z, ax_st[pe.2.1]? = some z ∧ (Cond.fieldLink own idx z.1 z.2.1 "[I" ∈ ax_G ∨ ∃ host, Cond.fieldLinkNest own idx z.1 z.2.1 "[I" host ∈ lw_tbl)
  | .new idx => ∃ C T, ax_cl[pe.2.1]? = some (C, T, pe.2.2.1) ∧ Cond.classLink own idx C ∈ ax_G ∧ Cond.instantiable C pe.2.2.1 ∈ ax_G ∧ Cond.initialized C ∈ ax_G ∧ ax_nofl pe.2.1 pe.2.2.1 = true
  | .newarray a => Cond.arrayClass (newarray.typeOf a) ∈ ax_G ∧ ax_tn[pe.2.1]? = some (newarray.typeOf a) ∧ (a = .int ∨ a = .byte)
  | .anewarray idx => ∃ C, Cond.classLink own idx C ∈ ax_G ∧ ax_tn[pe.2.1]? = some (.object C) ∧ (C = "LetterSums$Row" ∨ C = "LetterSums$Custom" ∨ C = "LetterSums$Mason")
  | .ldc idx => Cond.constant own idx (Int32.ofInt pe.2.2.2) ∈ ax_G
  | .ldc_w idx => Cond.constant own idx (Int32.ofInt pe.2.2.2) ∈ ax_G
  | .ldc2_w idx => Cond.constantLong own idx (Int64.ofInt pe.2.2.2) ∈ ax_G
  | .invokestatic idx => (pe.1 = 9 ∧ Cond.methodLink own idx Lib.Math.min.name ∈ ax_G ∧ Cond.static Lib.Math.min.name ∈ ax_G ∧ Cond.initialized "java/lang/Math" ∈ ax_G ∧ Cond.code Lib.Math.min.name Lib.Math.min.code 2 (some .int) ∈ ax_G) ∨
      (pe.1 ≠ 9 ∧ ∃ mi : ax_MI, prog[pe.2.1]? = some mi ∧ Cond.static mi.2.1 ∈ ax_G ∧ (Cond.methodLink own idx mi.2.1 ∈ ax_G ∨ ∃ host, Cond.methodLinkNest own idx mi.2.1 host ∈ lw_tbl))
  | .invokevirtual idx => ∃ (mi : ax_MI) (T : u_T) (N : Nat), prog[pe.2.1]? = some mi ∧ ax_cl[pe.2.2.1]? = some (mi.2.1.cls, T, N) ∧ Cond.instanceMethod mi.2.1 ∈ ax_G ∧ Cond.selects mi.2.1.cls mi.2.1 mi.2.1 ∈ ax_G ∧ (Cond.methodLink own idx mi.2.1 ∈ ax_G ∨ ∃ host, Cond.methodLinkNest own idx mi.2.1 host ∈ lw_tbl)
  | .invokespecial idx => (pe.1 = 8 ∧ Cond.methodLink own idx objectInit ∈ ax_G ∧ Cond.instanceMethod objectInit ∈ ax_G ∧ Cond.code objectInit ⟨#[0xb1]⟩ 1 none ∈ ax_G) ∨
      (pe.1 ≠ 8 ∧ ∃ mi : ax_MI, prog[pe.2.1]? = some mi ∧ mi.2.1.name = "<init>" ∧ mi.2.2.2.2.1 = none ∧ Cond.instanceMethod mi.2.1 ∈ ax_G ∧ (Cond.methodLink own idx mi.2.1 ∈ ax_G ∨ ∃ host, Cond.methodLinkNest own idx mi.2.1 host ∈ lw_tbl))
  | _ => True
def ax_Ok (prog : List ax_MI) (own nm : String) (cc : ByteArray) (pc : Nat) (i : Instr) (len : Nat) (pe : ax_PE) : Prop :=
  decode cc pc = .ok (i, len) ∧ (ax_len i = 0 ∨ len = ax_len i) ∧ ax_OkW prog own nm i pe
section AXS
variable {G : ax_T} {p : Program} {l : Launch} {e : Env} {R : Room} {s : State} {m : MethodId} {args : Array Value} {below : List Frame} {meth : Method} {c : Code} {Q : State → Prop} {own nm : String} {cc : ByteArray} {nL : Nat}
variable {pc : Nat} {lv : List (Nat × Value)} {st : List Value} {h : ax_H} {n cs ss : Nat} {iv : Nat → Int × Int} {pe : ax_PE} {F : ax_F}
def ax_WF (G : ax_T) (p : Program) (l : Launch) (e : Env) (R : Room) (s : State) (m : MethodId) (args : Array Value) (below : List Frame) (meth : Method) (c : Code) (Q : State → Prop) (nL : Nat) (F : ax_F) : Prop :=
  ax_W G p l e R s m args below meth c Q nL F.1 F.2.1 F.2.2.1 (ax_hget F.2.2.2.1) F.2.2.2.2.1 F.2.2.2.2.2.1 F.2.2.2.2.2.2
theorem ax_ld_ok {len k kind : Nat}
    (rI : kind = 0 → ∀ (ls : Array Slot) (H : Heap) (locs : List Loc) (x : Int32), ls[k]? = some (.val (.int x)) → W p l e R s m args below meth c H locs cs ss Q (F0 m (pc + len) ls (.int x :: st.map (ax_v G))) → W p l e R s m args below meth c H locs cs ss Q (F0 m pc ls (st.map (ax_v G))))
    (rA : kind = 1 → ∀ (ls : Array Slot) (H : Heap) (locs : List Loc) (x : Nat), ls[k]? = some (.val (.ref x)) → W p l e R s m args below meth c H locs cs ss Q (F0 m (pc + len) ls (.ref x :: st.map (ax_v G))) → W p l e R s m args below meth c H locs cs ss Q (F0 m pc ls (st.map (ax_v G))))
    (rL : kind = 2 → ∀ (ls : Array Slot) (H : Heap) (locs : List Loc) (x : Int64), ls[k]? = some (.val (.long x)) → W p l e R s m args below meth c H locs cs ss Q (F0 m (pc + len) ls (.long x :: st.map (ax_v G))) → W p l e R s m args below meth c H locs cs ss Q (F0 m pc ls (st.map (ax_v G))))
    (hs : ax_s_ld pc lv st h n cs ss len k kind = some F) (kk : ax_WF G p l e R s m args below meth c Q nL F) : ax_W G p l e R s m args below meth c Q nL pc lv st (ax_hget h) n cs ss := by
  intro ls H locs hl hR hL
  unfold ax_s_ld at hs
  cases e0 : ax_look lv k with
  | none => rw [e0] at hs; cases hs
  | some v =>
    rw [e0] at hs
    have h1 := ax_look_ok hl e0
    cases v with
    | int x =>
      cases e1 : kind == 0 with
      | false => simp only [e1, cond_false] at hs; cases hs
      | true =>
        simp only [e1, cond_true] at hs
        obtain rfl := Option.some.inj hs
        exact rI (by simpa using e1) ls H locs x h1 (kk ls H locs hl hR hL)
    | float x =>
      cases e1 : kind == 0 with
      | false => simp only [e1, cond_false] at hs; cases hs
      | true =>
        simp only [e1, cond_true] at hs
        obtain rfl := Option.some.inj hs
        exact rI (by simpa using e1) ls H locs _ h1 (kk ls H locs hl hR hL)
    | ref x =>
      cases e1 : kind == 1 with
      | false => simp only [e1, cond_false] at hs; cases hs
      | true =>
        simp only [e1, cond_true] at hs
        obtain rfl := Option.some.inj hs
        exact rA (by simpa using e1) ls H locs _ h1 (kk ls H locs hl hR hL)
    | retAddr x =>
      cases e1 : kind == 1 with
      | false => simp only [e1, cond_false] at hs; cases hs
      | true =>
        simp only [e1, cond_true] at hs
        obtain rfl := Option.some.inj hs
        exact rA (by simpa using e1) ls H locs _ h1 (kk ls H locs hl hR hL)
    | long x =>
      cases e1 : kind == 2 with
      | false => simp only [e1, cond_false] at hs; cases hs
      | true =>
        simp only [e1, cond_true] at hs
        obtain rfl := Option.some.inj hs
        exact rL (by simpa using e1) ls H locs _ h1 (kk ls H locs hl hR hL)
    | null => cases hs
    | double x => cases hs
theorem ax_st_ok {len k kind : Nat}
    (rI : kind = 0 → ∀ (ls : Array Slot) (H : Heap) (locs : List Loc) (rest : List Value) (x : Int32) (lw lw' : List (Nat × Value)), lv_has ls nL lw → k < nL → (k, Value.int x) :: lw.filter (fun q => !(q.1 == k) && !(q.1 + 1 == k && q.2.category == 2)) = lw' → (∀ ls' : Array Slot, lv_has ls' nL lw' → W p l e R s m args below meth c H locs cs ss Q (F0 m (pc + len) ls' rest)) → W p l e R s m args below meth c H locs cs ss Q (F0 m pc ls (.int x :: rest)))
    (rA : kind = 1 → ∀ (ls : Array Slot) (H : Heap) (locs : List Loc) (rest : List Value) (x : Nat) (lw lw' : List (Nat × Value)), lv_has ls nL lw → k < nL → (k, Value.ref x) :: lw.filter (fun q => !(q.1 == k) && !(q.1 + 1 == k && q.2.category == 2)) = lw' → (∀ ls' : Array Slot, lv_has ls' nL lw' → W p l e R s m args below meth c H locs cs ss Q (F0 m (pc + len) ls' rest)) → W p l e R s m args below meth c H locs cs ss Q (F0 m pc ls (.ref x :: rest)))
    (rL : kind = 2 → ∀ (ls : Array Slot) (H : Heap) (locs : List Loc) (rest : List Value) (x : Int64) (lw lw' : List (Nat × Value)), lv_has ls nL lw → k + 1 < nL → (k, Value.long x) :: lw.filter (fun q => !(q.1 == k) && (!(q.1 == k + 1) && !(q.1 + 1 == k && q.2.category == 2))) = lw' → (∀ ls' : Array Slot, lv_has ls' nL lw' → W p l e R s m args below meth c H locs cs ss Q (F0 m (pc + len) ls' rest)) → W p l e R s m args below meth c H locs cs ss Q (F0 m pc ls (.long x :: rest)))
    (hs : ax_s_st nL pc lv st h n cs ss len k kind = some F) (kk : ax_WF G p l e R s m args below meth c Q nL F) : ax_W G p l e R s m args below meth c Q nL pc lv st (ax_hget h) n cs ss := by
  intro ls H locs hl hR hL
  unfold ax_s_st at hs
  cases st with
  | nil => cases hs
  | cons v st =>
    cases v with
    | int x =>
      cases e1 : kind == 0 && Nat.blt k nL with
      | false => simp only [e1, cond_false] at hs; cases hs
      | true =>
        simp only [e1, cond_true] at hs
        obtain rfl := Option.some.inj hs
        simp only [Bool.and_eq_true, beq_iff_eq, Nat.blt_eq] at e1
        exact rI e1.1 ls H locs _ x _ _ hl e1.2 (ax_put1_map G lv k (.int x)) (fun ls' hl' => kk ls' H locs hl' hR hL)
    | float x =>
      cases e1 : kind == 0 && Nat.blt k nL with
      | false => simp only [e1, cond_false] at hs; cases hs
      | true =>
        simp only [e1, cond_true] at hs
        obtain rfl := Option.some.inj hs
        simp only [Bool.and_eq_true, beq_iff_eq, Nat.blt_eq] at e1
        exact rI e1.1 ls H locs _ _ _ _ hl e1.2 (ax_put1_map G lv k (.float x)) (fun ls' hl' => kk ls' H locs hl' hR hL)
    | ref x =>
      cases e1 : kind == 1 && Nat.blt k nL with
      | false => simp only [e1, cond_false] at hs; cases hs
      | true =>
        simp only [e1, cond_true] at hs
        obtain rfl := Option.some.inj hs
        simp only [Bool.and_eq_true, beq_iff_eq, Nat.blt_eq] at e1
        exact rA e1.1 ls H locs _ _ _ _ hl e1.2 (ax_put1_map G lv k (.ref x)) (fun ls' hl' => kk ls' H locs hl' hR hL)
    | retAddr x =>
      cases e1 : kind == 1 && Nat.blt k nL with
      | false => simp only [e1, cond_false] at hs; cases hs
      | true =>
        simp only [e1, cond_true] at hs
        obtain rfl := Option.some.inj hs
        simp only [Bool.and_eq_true, beq_iff_eq, Nat.blt_eq] at e1
        exact rA e1.1 ls H locs _ _ _ _ hl e1.2 (ax_put1_map G lv k (.retAddr x)) (fun ls' hl' => kk ls' H locs hl' hR hL)
    | long x =>
      cases e1 : kind == 2 && Nat.blt (k + 1) nL with
      | false => simp only [e1, cond_false] at hs; cases hs
      | true =>
        simp only [e1, cond_true] at hs
        obtain rfl := Option.some.inj hs
        simp only [Bool.and_eq_true, beq_iff_eq, Nat.blt_eq] at e1
        exact rL e1.1 ls H locs _ _ _ _ hl e1.2 (ax_put2_map G lv k (.long x)) (fun ls' hl' => kk ls' H locs hl' hR hL)
    | null => cases hs
    | double x => cases hs
theorem ax_i2_ok {op : Int32 → Int32 → Int32}
    (r : ∀ (ls : Array Slot) (H : Heap) (locs : List Loc) (rest : List Value) (x y : Int32), W p l e R s m args below meth c H locs cs ss Q (F0 m (pc + 1) ls (.int (op x y) :: rest)) → W p l e R s m args below meth c H locs cs ss Q (F0 m pc ls (.int y :: .int x :: rest)))
    (hs : ax_s_i2 pc lv st h n cs ss op = some F) (kk : ax_WF G p l e R s m args below meth c Q nL F) : ax_W G p l e R s m args below meth c Q nL pc lv st (ax_hget h) n cs ss := by
  intro ls H locs hl hR hL
  unfold ax_s_i2 at hs
  split at hs
  · obtain rfl := Option.some.inj hs
    exact r ls H locs _ _ _ (kk ls H locs hl hR hL)
  · cases hs
theorem ax_l2_ok {op : Int64 → Int64 → Int64}
    (r : ∀ (ls : Array Slot) (H : Heap) (locs : List Loc) (rest : List Value) (x y : Int64), W p l e R s m args below meth c H locs cs ss Q (F0 m (pc + 1) ls (.long (op x y) :: rest)) → W p l e R s m args below meth c H locs cs ss Q (F0 m pc ls (.long y :: .long x :: rest)))
    (hs : ax_s_l2 pc lv st h n cs ss op = some F) (kk : ax_WF G p l e R s m args below meth c Q nL F) : ax_W G p l e R s m args below meth c Q nL pc lv st (ax_hget h) n cs ss := by
  intro ls H locs hl hR hL
  unfold ax_s_l2 at hs
  split at hs
  · obtain rfl := Option.some.inj hs
    exact r ls H locs _ _ _ (kk ls H locs hl hR hL)
  · cases hs
theorem ax_div_ok {op : Int32 → Int32 → Int32}
    (r : ∀ (ls : Array Slot) (H : Heap) (locs : List Loc) (rest : List Value) (x y : Int32), ¬ y = 0 → W p l e R s m args below meth c H locs cs ss Q (F0 m (pc + 1) ls (.int (op x y) :: rest)) → W p l e R s m args below meth c H locs cs ss Q (F0 m pc ls (.int y :: .int x :: rest)))
    (hs : ax_s_div pc lv st h n cs ss op = some F) (kk : ax_WF G p l e R s m args below meth c Q nL F) : ax_W G p l e R s m args below meth c Q nL pc lv st (ax_hget h) n cs ss := by
  intro ls H locs hl hR hL
  unfold ax_s_div at hs
  split at hs
  · rename_i y x st'
    cases e1 : decide (y = 0) with
    | true => simp only [e1, cond_true] at hs; cases hs
    | false =>
      simp only [e1, cond_false] at hs
      obtain rfl := Option.some.inj hs
      exact r ls H locs _ _ _ (of_decide_eq_false e1) (kk ls H locs hl hR hL)
  · cases hs
theorem ax_rg_ok (hρ : ∀ u, (iv u).1 ≤ (G.2.2.2.1 u).toInt ∧ (G.2.2.2.1 u).toInt ≤ (iv u).2) {v : Value} {r : Int × Int} (h : ax_rg iv v = some r) : ∃ x : Int32, ax_v G v = .int x ∧ r.1 ≤ x.toInt ∧ x.toInt ≤ r.2 := by
  cases v with
  | int x => cases h; exact ⟨x, rfl, Int.le_refl _, Int.le_refl _⟩
  | float u => cases h; exact ⟨_, rfl, hρ _⟩
  | _ => cases h
theorem ax_br_ok (hρ : ∀ u, (iv u).1 ≤ (G.2.2.2.1 u).toInt ∧ (G.2.2.2.1 u).toInt ≤ (iv u).2) {cn : ClassFile.Cond} {off : Int} {a b : Value} {st0 : List Value}
    (r : ∀ (ls : Array Slot) (H : Heap) (locs : List Loc) (x y : Int32) (tgt : Nat), ax_v G a = .int x → ax_v G b = .int y → (pc : Int) + off = (tgt : Int) → (ax_holds cn x y → W p l e R s m args below meth c H locs cs ss Q (F0 m tgt ls (st.map (ax_v G)))) → (¬ ax_holds cn x y → W p l e R s m args below meth c H locs cs ss Q (F0 m (pc + 3) ls (st.map (ax_v G)))) → W p l e R s m args below meth c H locs cs ss Q (F0 m pc ls (st0.map (ax_v G))))
    (hs : ax_s_br iv pc lv h n cs ss cn off a b st = some F) (kk : ax_WF G p l e R s m args below meth c Q nL F) : ax_W G p l e R s m args below meth c Q nL pc lv st0 (ax_hget h) n cs ss := by
  intro ls H locs hl hR hL
  unfold ax_s_br at hs
  cases htg : ax_to pc off with
  | none => simp only [htg] at hs; cases hs
  | some tg =>
  simp only [htg] at hs
  cases ea : ax_rg iv a with
  | none => simp only [ea] at hs; cases hs
  | some ra =>
    cases eb : ax_rg iv b with
    | none => simp only [ea, eb] at hs; cases hs
    | some rb =>
      simp only [ea, eb] at hs
      obtain ⟨x, hx, hx2⟩ := ax_rg_ok hρ ea
      obtain ⟨y, hy, hy2⟩ := ax_rg_ok hρ eb
      cases ec : ax_cmp cn ra rb with
      | none => simp only [ec] at hs; cases hs
      | some t =>
        have hc := ax_cmp_ok hx2 hy2 ec
        cases t with
        | true =>
          simp only [ec] at hs
          obtain rfl := Option.some.inj hs
          exact r ls H locs x y tg hx hy (ax_to_ok htg) (fun _ => kk ls H locs hl hR hL) (fun hn => absurd (hc.mpr rfl) hn)
        | false =>
          simp only [ec] at hs
          obtain rfl := Option.some.inj hs
          exact r ls H locs x y tg hx hy (ax_to_ok htg) (fun hh => by have := hc.mp hh; cases this) (fun _ => kk ls H locs hl hR hL)
theorem ax_lookup_dflt {ps : List (Int × Int)} {d x : Int} (h : ∀ q ∈ ps, q.1 ≠ x) : Op.lookupswitch.offset ps d x = d := by
  induction ps with
  | nil => rfl
  | cons q ps ih =>
    obtain ⟨a, o⟩ := q
    rw [Op.lookupswitch.offset_cons, if_neg (h (a, o) List.mem_cons_self)]
    exact ih fun q hq => h q (List.mem_cons_of_mem _ hq)
end AXS
