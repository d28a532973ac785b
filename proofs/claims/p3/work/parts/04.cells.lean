/-! ===== arrays, new cells, static arrays, locals, calls over the numbered cells ===== -/
section AXA
variable {G : ax_T} {p : Program} {l : Launch} {e : Env} {R : Room} {s : State} {m : MethodId} {args : Array Value} {below : List Frame} {meth : Method} {c : Code} {Q : State → Prop} {own : String} {cc : ByteArray} {nL : Nat}
variable {pc : Nat} {lv : List (Nat × Value)} {st : List Value} {g g' : Nat → Option ax_C} {n cs ss : Nat}
theorem ax_tt {U : State} (h : ax_X G U) {t : Nat} {ty : FieldType} (ht : ax_tn[t]? = some ty) : G.2.2.2.2.2[t]? = some ((G.2.2.2.2.2.getD t (0, .int)).1, ty) := by
  have h1 := h.2.2.2.2
  rw [← h1, List.getElem?_map] at ht
  cases h2 : G.2.2.2.2.2[t]? with
  | none => rw [h2] at ht; cases ht
  | some q =>
    rw [h2] at ht
    have h3 : q.2 = ty := Option.some.inj ht
    rw [List.getD_eq_getElem?_getD, h2]
    subst h3
    rfl
theorem ax_iald (M : ax_M G p s m args meth c own cc nL) {k t N : Nat} {f : Nat → Int32} (hk : g k = some (.inl (t, N, .inl f))) (ht : ax_tn[t]? = some .int) {i : Int32} (hi : vp_in i N) (hd : decode cc pc = .ok (.iaload, 1))
    (kk : ax_W G p l e R s m args below meth c Q nL (pc + 1) lv (.int (f i.toNatClampNeg) :: st) g n cs ss) : ax_W G p l e R s m args below meth c Q nL pc lv (.int i :: .ref k :: st) g n cs ss := by
  intro ls H locs hl hR hL
  obtain ⟨hx, hb, -, hown, hts, -, hX⟩ := M
  exact va_iald hx hb hX.1 (ax_P1 (hR.2.1 k _ hk)) 0 t rfl (ax_tt hX ht) hi hd (kk ls H locs hl hR hL)
theorem ax_bald (M : ax_M G p s m args meth c own cc nL) {k t N : Nat} {f : Nat → Int32} (hk : g k = some (.inl (t, N, .inl f))) (ht : ax_tn[t]? = some .byte) {i : Int32} (hi : vp_in i N) (hd : decode cc pc = .ok (.baload, 1))
    (kk : ax_W G p l e R s m args below meth c Q nL (pc + 1) lv (.int (f i.toNatClampNeg) :: st) g n cs ss) : ax_W G p l e R s m args below meth c Q nL pc lv (.int i :: .ref k :: st) g n cs ss := by
  intro ls H locs hl hR hL
  obtain ⟨hx, hb, -, hown, hts, -, hX⟩ := M
  exact va_bald hx hb hX.1 (ax_P1 (hR.2.1 k _ hk)) 0 t rfl (ax_tt hX ht) hi hd (kk ls H locs hl hR hL)
theorem ax_alen (M : ax_M G p s m args meth c own cc nL) {k t N : Nat} {f : Nat → Int32} (hk : g k = some (.inl (t, N, .inl f))) {ty : FieldType} (ht : ax_tn[t]? = some ty) (hd : decode cc pc = .ok (.arraylength, 1))
    (kk : ax_W G p l e R s m args below meth c Q nL (pc + 1) lv (.int (Int32.ofNat N) :: st) g n cs ss) : ax_W G p l e R s m args below meth c Q nL pc lv (.ref k :: st) g n cs ss := by
  intro ls H locs hl hR hL
  obtain ⟨hx, hb, -, hown, hts, -, hX⟩ := M
  exact va_alen hx hb hX.1 (ax_P1 (hR.2.1 k _ hk)) 0 t rfl (ax_tt hX ht) rfl hd (kk ls H locs hl hR hL)
theorem ax_aald (M : ax_M G p s m args meth c own cc nL) {k t N k' : Nat} {C : String} {f : Nat → Option Nat} (hk : g k = some (.inl (t, N, .inr f))) (ht : ax_tn[t]? = some (.object C)) {i : Int32} (hi : vp_in i N) (hv : f i.toNatClampNeg = some k') (hd : decode cc pc = .ok (.aaload, 1))
    (kk : ax_W G p l e R s m args below meth c Q nL (pc + 1) lv (.ref k' :: st) g n cs ss) : ax_W G p l e R s m args below meth c Q nL pc lv (.int i :: .ref k :: st) g n cs ss := by
  intro ls H locs hl hR hL
  obtain ⟨hx, hb, -, hown, hts, -, hX⟩ := M
  refine va_aldq hx hb hX.1 (ax_P1 (hR.2.1 k _ hk)) 0 t rfl (ax_tt hX ht) hi hd ?_
  have h := kk ls H locs hl hR hL
  simp only [hv]
  exact h
theorem ax_locs {L : List Loc} {q : Loc} (hL : ∀ q ∈ L, G.2.1 ≤ q.base) (hq : G.2.1 ≤ q.base) : ∀ r ∈ L ++ [q], G.2.1 ≤ r.base := by
  intro r hr
  rcases List.mem_append.mp hr with h | h
  · exact hL r h
  · rw [List.mem_singleton.mp h]; exact hq
theorem ax_iast (M : ax_M G p s m args meth c own cc nL) {k t N : Nat} {f : Nat → Int32} (hk : g k = some (.inl (t, N, .inl f))) (ht : ax_tn[t]? = some .int) {i x : Int32} (hi : vp_in i N) (hd : decode cc pc = .ok (.iastore, 1))
    (hg : ∀ (j : Nat) (d : ax_C), g' j = some d → (j = k ∧ d = .inl (t, N, .inl (upd f i.toNatClampNeg x))) ∨ (j ≠ k ∧ g j = some d))
    (kk : ax_W G p l e R s m args below meth c Q nL (pc + 1) lv st g' n cs ss) : ax_W G p l e R s m args below meth c Q nL pc lv (.int x :: .int i :: .ref k :: st) g n cs ss := by
  intro ls H locs hl hR hL
  obtain ⟨hx, hb, -, hown, hts, -, hX⟩ := M
  refine W.iast hx hb (hR.2.1 k _ hk) ((hX.1.2 t _ (ax_tt hX ht)).1 N (fun j => .int (f j))) (fun q => by cases q) (by show ¬ (i < 0 ∨ (arrV _ _ _).slots.size ≤ _); rw [arrV_size]; exact hi) rfl rfl hd fun H1 e1 z oq => ?_
  refine kk ls H1 _ hl (hR.set (c := .inl (t, N, .inl (upd f i.toNatClampNeg x))) z oq ?_ hg) (ax_locs hL (Nat.le_add_right _ _))
  show H1[G.2.1 + k]? = some (vp_cell _ _)
  rw [e1, vp_cell_i, vp_cell_i, arrV_store]
  congr 2
  funext q
  by_cases hq : q = i.toNatClampNeg
  · subst hq; simp [updV, upd]
  · simp [updV, upd, hq]
theorem ax_bast (M : ax_M G p s m args meth c own cc nL) {k t N : Nat} {f : Nat → Int32} (hk : g k = some (.inl (t, N, .inl f))) (ht : ax_tn[t]? = some .byte) {i x : Int32} (hi : vp_in i N) (hd : decode cc pc = .ok (.bastore, 1))
    (hg : ∀ (j : Nat) (d : ax_C), g' j = some d → (j = k ∧ d = .inl (t, N, .inl (upd f i.toNatClampNeg (vp_nar .byte x)))) ∨ (j ≠ k ∧ g j = some d))
    (kk : ax_W G p l e R s m args below meth c Q nL (pc + 1) lv st g' n cs ss) : ax_W G p l e R s m args below meth c Q nL pc lv (.int x :: .int i :: .ref k :: st) g n cs ss := by
  intro ls H locs hl hR hL
  obtain ⟨hx, hb, -, hown, hts, -, hX⟩ := M
  refine W.bast hx hb (hR.2.1 k _ hk) ((hX.1.2 t _ (ax_tt hX ht)).1 N (fun j => .int (f j))) (fun q => by cases q) (by show ¬ (i < 0 ∨ (arrV _ _ _).slots.size ≤ _); rw [arrV_size]; exact hi) rfl rfl hd fun H1 e1 z oq => ?_
  refine kk ls H1 _ hl (hR.set (c := .inl (t, N, .inl (upd f i.toNatClampNeg (vp_nar .byte x)))) z oq ?_ hg) (ax_locs hL (Nat.le_add_right _ _))
  show H1[G.2.1 + k]? = some (vp_cell _ _)
  rw [e1, vp_cell_i, vp_cell_i, arrV_store]
  congr 2
  funext q
  by_cases hq : q = i.toNatClampNeg
  · subst hq; simp [updV, upd, vp_nar]; try rfl
  · simp [updV, upd, hq]
theorem ax_aast (M : ax_M G p s m args meth c own cc nL) {k t N k' ci : Nat} {C : String} {T : u_T} {N' : Nat} {fs : List Value} {f : Nat → Option Nat} (hk : g k = some (.inl (t, N, .inr f))) (ht : ax_tn[t]? = some (.object C)) (hk' : g k' = some (.inr (ci, fs))) (hc : ax_cl[ci]? = some (C, T, N')) {i : Int32} (hi : vp_in i N) (hd : decode cc pc = .ok (.aastore, 1))
    (hg : ∀ (j : Nat) (d : ax_C), g' j = some d → (j = k ∧ d = .inl (t, N, .inr (va_up f i.toNatClampNeg (some k')))) ∨ (j ≠ k ∧ g j = some d))
    (kk : ax_W G p l e R s m args below meth c Q nL (pc + 1) lv st g' n cs ss) : ax_W G p l e R s m args below meth c Q nL pc lv (.ref k' :: .int i :: .ref k :: st) g n cs ss := by
  intro ls H locs hl hR hL
  obtain ⟨hx, hb, -, hown, hts, -, hX⟩ := M
  have hlt : i.toNatClampNeg < N := Nat.not_le.mp fun q => hi (Or.inr q)
  have h0 : ¬ i < 0 := fun q => hi (Or.inl q)
  obtain ⟨r', hr', cellV, g1, g2, g3, -⟩ := hR.2.1 k' _ hk'
  have hcls := (hX.1.1 ci _ hc).2
  obtain ⟨kA, comp, k1, k2, k3, -⟩ := (hX.1.2 t _ (ax_tt hX ht)).2
  have hcomp : comp = G.1.1 ci := Option.some.inj (k3.symm.trans hcls.1)
  subst hcomp
  obtain ⟨kC, hkC, -⟩ := hcls.2
  refine W.aast hx hb (hR.2.1 k _ hk) (fun q h => by cases h) (fun h => by cases h) k1 k2 rfl hkC ⟨h0, by show _ < (arrV _ _ _).slots.size; rw [arrV_size]; exact hlt⟩ g1 (fun q h => by rw [g3] at h; cases h) (by rw [g2]; exact hkC) (by rw [g2]; exact va_assign hcls) rfl rfl hd fun H1 e1 z oq => ?_
  refine kk ls H1 _ hl (hR.set (c := .inl (t, N, .inr (va_up f i.toNatClampNeg (some k')))) z oq ?_ hg) (ax_locs hL (Nat.le_add_right _ _))
  show H1[G.2.1 + k]? = some (vp_cell _ _)
  rw [e1, vp_cell_q, vp_cell_q, arrV_store]
  congr 2
  funext q
  by_cases hq : q = i.toNatClampNeg
  · subst hq; simp [updV, va_up, va_rf]
  · simp [updV, va_up, hq]
/-- a new object, its fields as they begin -/
def ax_born (ci N : Nat) : List Value := (List.range N).map fun k => defaultValue (ax_ty ci k)
theorem ax_v_default (G : ax_T) {ty : FieldType} (h : ty ≠ .float) : ax_v G (defaultValue ty) = defaultValue ty := by
  cases ty <;> first | rfl | (exact absurd rfl h)
def ax_nofl (ci N : Nat) : Bool := (List.range N).all fun k => decide (ax_ty ci k ≠ .float)
theorem ax_new (M : ax_M G p s m args meth c own cc nL) {ci N idx : Nat} {C : String} {T : u_T} (hc : ax_cl[ci]? = some (C, T, N)) (hw : Cond.classLink own idx C ∈ ax_G) (hi : Cond.instantiable C N ∈ ax_G) (hn : Cond.initialized C ∈ ax_G) (hnf : ax_nofl ci N = true) (hcs : cs + 1 ≤ R.cells) (hss : ss + N ≤ R.slots) (hd : decode cc pc = .ok (.new idx, 3))
    (hg : ∀ (j : Nat) (d : ax_C), g' j = some d → (j = n ∧ d = .inr (ci, ax_born ci N)) ∨ g j = some d)
    (kk : ax_W G p l e R s m args below meth c Q nL (pc + 3) lv (.ref n :: st) g' (n + 1) (cs + 1) (ss + N)) : ax_W G p l e R s m args below meth c Q nL pc lv st g n cs ss := by
  intro ls H locs hl hR hL
  obtain ⟨hx, hb, -, hown, hts, -, hX⟩ := M
  have hKn := hX.1.1 ci _ hc
  refine W.newcK hx hb hown (hts _ hw) (hts _ hi) (hts _ hn) rfl hd hcs hss hKn.2.1 hR.1 fun H1 kC hkC e1 z1 o1 => ?_
  refine kk ls H1 locs hl (hR.push (c := .inr (ci, ax_born ci N)) (by rw [z1, hR.1]) (fun q hq => o1 q (by rw [← hR.1]; exact hq)) ⟨_, hc, (u_born (ax_ty ci) hts (ax_lay hc) hKn hkC e1 (ax_ty_ok hc)).to fun j hj => ?_⟩ hg) hL
  have h2 : ax_ty ci j ≠ .float := by
    have := List.all_eq_true.mp hnf j (List.mem_range.mpr hj)
    simpa using this
  show defaultValue (ax_ty ci j) = ((ax_born ci N).map (ax_v G)).getD j .null
  rw [List.getD_eq_getElem?_getD, List.getElem?_map, ax_born, List.getElem?_map, List.getElem?_range hj]
  simp [ax_v_default G h2]
theorem ax_newa (M : ax_M G p s m args meth c own cc nL) {at0 : ArrayType} {t : Nat} {i : Int32} (hw : Cond.arrayClass (newarray.typeOf at0) ∈ ax_G) (ht : ax_tn[t]? = some (newarray.typeOf at0)) (ha : at0 = .int ∨ at0 = .byte) (hi : ¬ i < 0) (hby : i.toNatClampNeg * 8 ≤ 536870912) (hcs : cs + 1 ≤ R.cells) (hss : ss + i.toNatClampNeg ≤ R.slots) (hd : decode cc pc = .ok (.newarray at0, 2))
    (hg : ∀ (j : Nat) (d : ax_C), g' j = some d → (j = n ∧ d = .inl (t, i.toNatClampNeg, .inl (fun _ => 0))) ∨ g j = some d)
    (kk : ax_W G p l e R s m args below meth c Q nL (pc + 2) lv (.ref n :: st) g' (n + 1) (cs + 1) (ss + i.toNatClampNeg)) : ax_W G p l e R s m args below meth c Q nL pc lv (.int i :: st) g n cs ss := by
  intro ls H locs hl hR hL
  obtain ⟨hx, hb, -, hown, hts, -, hX⟩ := M
  have hbb : i.toNatClampNeg * componentBytes (newarray.typeOf at0) ≤ 536870912 := by
    rcases ha with rfl | rfl <;> (refine Nat.le_trans (Nat.mul_le_mul_left _ ?_) hby; decide)
  refine va_newaK hx hb (hts _ hw) rfl hd rfl hi rfl hbb hcs hss hR.1 fun H1 cA e1 z1 o1 hAr hNm => ?_
  have hcA : (G.2.2.2.2.2.getD t (0, .int)).1 = cA := by
    have h1 := (hX.1.2 t _ (ax_tt hX ht)).2
    rcases ha with rfl | rfl
    · exact Option.some.inj ((show s.vm.findClass _ = _ from h1).symm.trans hNm)
    · exact Option.some.inj ((show s.vm.findClass _ = _ from h1).symm.trans hNm)
  refine kk ls H1 locs hl (hR.push (c := .inl (t, i.toNatClampNeg, .inl (fun _ => 0))) (by rw [z1, hR.1]) (fun q hq => o1 q (by rw [← hR.1]; exact hq)) ?_ hg) hL
  show H1[G.2.1 + n]? = some (vp_cell _ _)
  rw [e1, vp_cell_i, hcA]
  rcases ha with rfl | rfl <;> rfl
theorem ax_newq (M : ax_M G p s m args meth c own cc nL) {C : String} {t idx : Nat} {i : Int32} (hw : Cond.classLink own idx C ∈ ax_G) (ht : ax_tn[t]? = some (.object C)) (hC : C = "LetterSums$Row" ∨ C = "LetterSums$Custom" ∨ C = "LetterSums$Mason") (hi : ¬ i < 0) (hby : i.toNatClampNeg * 4 ≤ 536870912) (hcs : cs + 1 ≤ R.cells) (hss : ss + i.toNatClampNeg ≤ R.slots) (hd : decode cc pc = .ok (.anewarray idx, 3))
    (hg : ∀ (j : Nat) (d : ax_C), g' j = some d → (j = n ∧ d = .inl (t, i.toNatClampNeg, .inr (fun _ => none))) ∨ g j = some d)
    (kk : ax_W G p l e R s m args below meth c Q nL (pc + 3) lv (.ref n :: st) g' (n + 1) (cs + 1) (ss + i.toNatClampNeg)) : ax_W G p l e R s m args below meth c Q nL pc lv (.int i :: st) g n cs ss := by
  intro ls H locs hl hR hL
  obtain ⟨hx, hb, -, hown, hts, -, hX⟩ := M
  have hover : va_AO C s := by rcases hC with rfl | rfl | rfl <;> first | exact hX.2.2.1.1 | exact hX.2.2.1.2.1 | exact hX.2.2.1.2.2.1
  refine W.anew hx hb hown (hts _ hw) (va_AO.use hover) rfl hd rfl hi hby hcs hss fun cA kA comp f1 f2 f3 f4 => ?_
  have hcA : (G.2.2.2.2.2.getD t (0, .int)).1 = cA := by
    obtain ⟨kA', comp', -, -, -, h4⟩ := (hX.1.2 t _ (ax_tt hX ht)).2
    exact Option.some.inj (h4.symm.trans f1)
  have e0 : H.size = G.2.1 + n := hR.1
  rw [e0]
  refine kk ls _ locs hl (hR.push (c := .inl (t, i.toNatClampNeg, .inr (fun _ => none))) (by simp) (fun q hq => by rw [Array.getElem?_push, if_neg (Nat.ne_of_lt hq)]) ?_ hg) hL
  show (H.push _)[G.2.1 + n]? = some (vp_cell _ _)
  rw [← e0, Array.getElem?_push_size, vp_cell_q, hcA, arrV_new]
  rfl
theorem ax_gets (M : ax_M G p s m args meth c own cc nL) {j idx : Nat} {z : String × String × List Int32} (hz : ax_st[j]? = some z) (hw : Cond.fieldLink own idx z.1 z.2.1 "[I" ∈ ax_G ∨ ∃ host, Cond.fieldLinkNest own idx z.1 z.2.1 "[I" host ∈ lw_tbl) (hd : decode cc pc = .ok (.getstatic idx, 3))
    (kk : ax_W G p l e R s m args below meth c Q nL (pc + 3) lv (.retAddr j :: st) g n cs ss) : ax_W G p l e R s m args below meth c Q nL pc lv st g n cs ss := by
  intro ls H locs hl hR hL
  obtain ⟨hx, hb, -, hown, hts, -, hX⟩ := M
  obtain ⟨cf, kf, fi, f, a, cell, h1, h2, h3, h4, h5, h6, h7, h8⟩ := (hX.2.2.2.1 j z hz).1
  have h5' : H[a]? = some cell := by rw [hR.2.2 a (Nat.not_le.mp h8)]; exact h5
  rcases hw with hw | ⟨host, hw⟩
  · exact W.gets hx hb hown (hts _ hw) h1 h2 h3 h4 h5' (fun e => by rw [e] at h6; cases h6) h7 rfl hd (kk ls H locs hl hR hL)
  · exact va_WgetsN hx hb hown (va_Nw.use rfl (hX.2.1 _ hw rfl)) h1 h2 h3 h4 h5' (fun e => by rw [e] at h6; cases h6) h7 rfl hd (kk ls H locs hl hR hL)
/-- a place of a static array -/
theorem ax_sald (M : ax_M G p s m args meth c own cc nL) {j : Nat} {z : String × String × List Int32} (hz : ax_st[j]? = some z) {i : Int32} (hi : vp_in i z.2.2.length) (hd : decode cc pc = .ok (.iaload, 1))
    (kk : ax_W G p l e R s m args below meth c Q nL (pc + 1) lv (.int (z.2.2.getD i.toNatClampNeg 0) :: st) g n cs ss) : ax_W G p l e R s m args below meth c Q nL pc lv (.int i :: .retAddr j :: st) g n cs ss := by
  intro ls H locs hl hR hL
  obtain ⟨hx, hb, -, hown, hts, -, hX⟩ := M
  obtain ⟨cell, h1, h2, h3, h4, h5, h6, h7⟩ := (hX.2.2.2.1 j z hz).2
  have hlt : i.toNatClampNeg < z.2.2.length := Nat.not_le.mp fun q => hi (Or.inr q)
  have hin' : ¬ (i < 0 ∨ cell.slots.size ≤ i.toNatClampNeg) := by
    intro q
    rcases q with q | q
    · exact hi (Or.inl q)
    · omega
  have h1' : H[G.2.2.2.2.1 j]? = some cell := by rw [hR.2.2 _ (Nat.not_le.mp h7)]; exact h1
  exact W.iald hx hb h1' h2 h3 hin' (h6 _ hlt) rfl rfl hd (kk ls H locs hl hR hL)
/-! calls -/
def ax_Pc (G : ax_T) (as : List Value) (g : Nat → Option ax_C) (n : Nat) : Array Value → State → Prop := fun a U => a = (as.map (ax_v G)).toArray ∧ ax_X G U ∧ ax_R G g n U.heap
def ax_Qc (G : ax_T) (r : Option Value) (g : Nat → Option ax_C) (n : Nat) : Array Value → State → Outcome → State → Prop := fun _ _ o t => o = .returned (r.map (ax_v G)) ∧ ax_R G g n t.heap
def ax_rm (d mc ms : Nat) : Room := { frames := d, cells := mc, slots := ms, locals := 40 * d }
/-- a method's contract over the numbered cells: at these arguments and cells it answers r, and the cells are as told -/
def ax_Met (l : Launch) (G : ax_T) (y : MethodName) (bytes : ByteArray) (maxL : Nat) (ret : Option FieldType) (d : Nat) (as : List Value) (g : Nat → Option ax_C) (n : Nat) (r : Option Value) (g' : Nat → Option ax_C) (n' mc ms : Nat) : Prop :=
  Met l y (Cond.code y bytes maxL ret :: ax_G) (ax_rm d mc ms) (ax_Pc G as g n) (ax_Qc G r g' n') mc ms (fun q => G.2.1 ≤ q)
theorem ax_blind (G : ax_T) (as : List Value) (g : Nat → Option ax_C) (n : Nat) : FrameBlind (ax_Pc G as g n) := fun a U f mk h => ⟨h.1, ax_X.same (s := U) (U := U.calling f mk a) rfl h.2.1, h.2.2⟩
theorem ax_good {w : Cond} (h : w ∈ ax_G) : GoodIn ax_G (w :: ax_G) := by
  intro v hv
  rcases List.mem_cons.mp hv with rfl | hv
  · exact ⟨h, good_of_word (List.mem_filter.mp h).2⟩
  · exact ⟨hv, good_of_word (List.mem_filter.mp hv).2⟩
theorem ax_after {H : Heap} {locs : List Loc} {ls : Array Slot} {st0 rest : List Value} {a : Array Value} {r : Option Value} {n' mc ms : Nat}
    (hr : va_Run p l e R s m args below meth c H locs cs ss mc ms (F0 m pc ls st0) rest (ax_Qc G r g' n' a) (fun q => G.2.1 ≤ q)) (hL : ∀ q ∈ locs, G.2.1 ≤ q.base)
    (kk : ∀ (H1 : Heap) (locs1 : List Loc), ax_R G g' n' H1 → (∀ q ∈ locs1, G.2.1 ≤ q.base) → W p l e R s m args below meth c H1 locs1 (cs + mc) (ss + ms) Q (F0 m (pc + 3) ls ((r.map (ax_v G)).toList ++ rest))) : W p l e R s m args below meth c H locs cs ss Q (F0 m pc ls st0) := by
  intro T hT X
  obtain ⟨v, st₀, t, T', L, h0, X', hL', e1, e2, ⟨ho, hR'⟩, st1⟩ := hr T hT X
  have hv : v = r.map (ax_v G) := Outcome.returned.inj ho
  subst hv
  obtain ⟨t2, a1, b1⟩ := kk T'.heap (locs ++ L) (by rw [e1]; exact hR') (fun q hq => by
    rcases List.mem_append.mp hq with h | h
    · exact hL q h
    · exact hL' q h) T' rfl X'
  exact ⟨t2, st1 t2 a1, b1⟩
def ax_sum (st : List Value) : Nat := (st.map fun v => v.category).sum
theorem ax_sum_map (G : ax_T) (st : List Value) : ((st.map (ax_v G)).map fun v => v.category).sum = ax_sum st := by
  simp only [ax_sum, List.map_map]
  congr 1
  exact List.map_congr_left fun v _ => ax_cat G v
variable {y : MethodName} {bytes : ByteArray} {maxL d idx nA n' mc ms : Nat} {ret : Option FieldType} {as : List Value} {r : Option Value}
/-- what a call needs of the tables, but its link -/
def ax_callee (y : MethodName) (bytes : ByteArray) (maxL : Nat) (ret : Option FieldType) (nA : Nat) : Prop :=
  Cond.code y bytes maxL ret ∈ ax_G ∧ Cond.initialized y.cls ∈ ax_G ∧ (y.cls ≠ "java/lang/invoke/MethodHandle" ∧ y.cls ≠ "java/lang/invoke/VarHandle" ∧ (parseMethodDescriptor y.desc).map (fun d => d.parameters.length) = some nA) ∧ maxL ≤ 21
theorem ax_callS (M : ax_M G p s m args meth c own cc nL) (hM : ax_Met l G y bytes maxL ret d as g n r g' n' mc ms) (hy : ax_callee y bytes maxL ret nA) (hst : Cond.static y ∈ ax_G)
    (hw : Cond.methodLink own idx y ∈ ax_G ∨ ∃ host, Cond.methodLinkNest own idx y host ∈ lw_tbl) (hn : as.length = nA) (hf : d + 1 ≤ R.frames) (hlo : 40 * (d + 1) ≤ R.locals) (hcs : cs + mc ≤ R.cells) (hss : ss + ms ≤ R.slots) (hsum : ax_sum st ≤ 8)
    (hd : decode cc pc = .ok (.invokestatic idx, 3)) (kk : ax_W G p l e R s m args below meth c Q nL (pc + 3) lv (r.toList ++ st) g' n' (cs + mc) (ss + ms)) : ax_W G p l e R s m args below meth c Q nL pc lv (as.reverse ++ st) g n cs ss := by
  intro ls H locs hl hR hL
  obtain ⟨hx, hb, hml, hown, hts, -, hX⟩ := M
  obtain ⟨hcw, hin, hyy, hmx⟩ := hy
  have hp : PreS s H (ax_Pc G as g n) (as.map (ax_v G)) := ⟨ax_blind G as g n, fun U hU hW => ⟨rfl, hX.warm hW, by rw [hU]; exact hR⟩⟩
  have hroom : (ax_rm d mc ms).frames + 1 ≤ R.frames ∧ 8 + (maxL + 11) + (ax_rm d mc ms).locals ≤ R.locals := ⟨hf, by show 8 + (maxL + 11) + 40 * d ≤ R.locals; omega⟩
  have key : ∀ (hr : va_Run p l e R s m args below meth c H locs cs ss mc ms (F0 m pc ls ((as.reverse ++ st).map (ax_v G))) (st.map (ax_v G)) (ax_Qc G r g' n' (as.map (ax_v G)).toArray) (fun q => G.2.1 ≤ q)), W p l e R s m args below meth c H locs cs ss Q (F0 m pc ls ((as.reverse ++ st).map (ax_v G))) := fun hr => ax_after hr hL fun H1 locs1 hR1 hL1 => by
    have h := kk ls H1 locs1 hl hR1 hL1
    cases r <;> exact h
  have hlen : (as.map (ax_v G)).length = nA := by rw [List.length_map]; exact hn
  have hstk : (as.reverse ++ st).map (ax_v G) = (as.map (ax_v G)).reverse ++ st.map (ax_v G) := by rw [List.map_append, List.map_reverse]
  have hW8 : 2 * (F0 m pc ls ((as.reverse ++ st).map (ax_v G))).monitorRoom + ((st.map (ax_v G)).map fun v => v.category).sum ≤ 8 := by
    rw [ax_sum_map]; show 2 * 0 + _ ≤ 8; omega
  rcases hw with hw | ⟨host, hw⟩
  · exact key (va_runS ⟨hx, hb, hml, hown, hts⟩ hM ⟨callB_of nA hts (ax_good hcw) rfl rfl rfl (hts _ hin) (hts _ hw) hyy hroom, hts _ hst⟩ hp rfl hlen (hl.1) hstk hW8 hd ⟨hcs, hss⟩)
  · exact key (va_runSN ⟨hx, hb, hml, hown, hts⟩ hM ⟨va_cnB nA hts (ax_good hcw) rfl rfl rfl (hX.2.1 _ hw rfl) (hts _ hin) hyy hroom, hts _ hst, trivial⟩ hp rfl hlen (hl.1) hstk hW8 hd ⟨hcs, hss⟩)
theorem ax_callV (M : ax_M G p s m args meth c own cc nL) {k ci N : Nat} {T : u_T} {fs : List Value} (hk : g k = some (.inr (ci, fs))) (hc : ax_cl[ci]? = some (y.cls, T, N)) (hM : ax_Met l G y bytes maxL ret d (.ref k :: as) g n r g' n' mc ms) (hy : ax_callee y bytes maxL ret nA) (hst : Cond.instanceMethod y ∈ ax_G) (hse : Cond.selects y.cls y y ∈ ax_G)
    (hw : Cond.methodLink own idx y ∈ ax_G ∨ ∃ host, Cond.methodLinkNest own idx y host ∈ lw_tbl) (hn : as.length = nA) (hf : d + 1 ≤ R.frames) (hlo : 40 * (d + 1) ≤ R.locals) (hcs : cs + mc ≤ R.cells) (hss : ss + ms ≤ R.slots) (hsum : ax_sum st ≤ 8)
    (hd : decode cc pc = .ok (.invokevirtual idx, 3)) (kk : ax_W G p l e R s m args below meth c Q nL (pc + 3) lv (r.toList ++ st) g' n' (cs + mc) (ss + ms)) : ax_W G p l e R s m args below meth c Q nL pc lv (as.reverse ++ .ref k :: st) g n cs ss := by
  intro ls H locs hl hR hL
  obtain ⟨hx, hb, hml, hown, hts, -, hX⟩ := M
  obtain ⟨hcw, hin, hyy, hmx⟩ := hy
  have hrecv := va_recv hX.1 (ax_P1 (hR.2.1 k _ hk)) (ci := ci) (q0 := 0) hc rfl
  have hp : PreV s H y.cls (G.2.1 + k) (ax_Pc G (.ref k :: as) g n) (as.map (ax_v G)) := ⟨ax_blind G _ g n, hrecv, fun U hU hW => ⟨rfl, hX.warm hW, by rw [hU]; exact hR⟩⟩
  have hroom : (ax_rm d mc ms).frames + 1 ≤ R.frames ∧ 8 + (maxL + 11) + (ax_rm d mc ms).locals ≤ R.locals := ⟨hf, by show 8 + (maxL + 11) + 40 * d ≤ R.locals; omega⟩
  have key : ∀ (hr : va_Run p l e R s m args below meth c H locs cs ss mc ms (F0 m pc ls ((as.reverse ++ .ref k :: st).map (ax_v G))) (st.map (ax_v G)) (ax_Qc G r g' n' (Value.ref (G.2.1 + k) :: as.map (ax_v G)).toArray) (fun q => G.2.1 ≤ q)), W p l e R s m args below meth c H locs cs ss Q (F0 m pc ls ((as.reverse ++ .ref k :: st).map (ax_v G))) := fun hr => ax_after hr hL fun H1 locs1 hR1 hL1 => by
    have h := kk ls H1 locs1 hl hR1 hL1
    cases r <;> exact h
  have hlen : (as.map (ax_v G)).length = nA := by rw [List.length_map]; exact hn
  have hstk : (as.reverse ++ .ref k :: st).map (ax_v G) = (as.map (ax_v G)).reverse ++ .ref (G.2.1 + k) :: st.map (ax_v G) := by rw [List.map_append, List.map_reverse]; rfl
  have hW8 : 2 * (F0 m pc ls ((as.reverse ++ .ref k :: st).map (ax_v G))).monitorRoom + ((st.map (ax_v G)).map fun v => v.category).sum ≤ 8 := by
    rw [ax_sum_map]; show 2 * 0 + _ ≤ 8; omega
  rcases hw with hw | ⟨host, hw⟩
  · exact key (va_runV ⟨hx, hb, hml, hown, hts⟩ hM ⟨callB_of nA hts (ax_good hcw) rfl rfl rfl (hts _ hin) (hts _ hw) hyy hroom, hts _ hst, hts _ hse⟩ hp rfl hlen (hl.1) hstk hW8 hd ⟨hcs, hss⟩)
  · exact key (va_runVN ⟨hx, hb, hml, hown, hts⟩ hM ⟨va_cnB nA hts (ax_good hcw) rfl rfl rfl (hX.2.1 _ hw rfl) (hts _ hin) hyy hroom, hts _ hst, hts _ hse⟩ hp rfl hlen (hl.1) hstk hW8 hd ⟨hcs, hss⟩)
theorem ax_callI (M : ax_M G p s m args meth c own cc nL) {k : Nat} (hM : ax_Met l G y bytes maxL none d (.ref k :: as) g n none g' n' mc ms) (hy : ax_callee y bytes maxL none nA) (hst : Cond.instanceMethod y ∈ ax_G) (hy1 : y.name = "<init>")
    (hw : Cond.methodLink own idx y ∈ ax_G ∨ ∃ host, Cond.methodLinkNest own idx y host ∈ lw_tbl) (hn : as.length = nA) (hf : d + 1 ≤ R.frames) (hlo : 40 * (d + 1) ≤ R.locals) (hcs : cs + mc ≤ R.cells) (hss : ss + ms ≤ R.slots) (hsum : ax_sum st ≤ 8)
    (hd : decode cc pc = .ok (.invokespecial idx, 3)) (kk : ax_W G p l e R s m args below meth c Q nL (pc + 3) lv st g' n' (cs + mc) (ss + ms)) : ax_W G p l e R s m args below meth c Q nL pc lv (as.reverse ++ .ref k :: st) g n cs ss := by
  intro ls H locs hl hR hL
  obtain ⟨hx, hb, hml, hown, hts, -, hX⟩ := M
  obtain ⟨hcw, hin, hyy, hmx⟩ := hy
  have hp : PreS s H (ax_Pc G (.ref k :: as) g n) (.ref (G.2.1 + k) :: as.map (ax_v G)) := ⟨ax_blind G _ g n, fun U hU hW => ⟨rfl, hX.warm hW, by rw [hU]; exact hR⟩⟩
  have hroom : (ax_rm d mc ms).frames + 1 ≤ R.frames ∧ 8 + (maxL + 11) + (ax_rm d mc ms).locals ≤ R.locals := ⟨hf, by show 8 + (maxL + 11) + 40 * d ≤ R.locals; omega⟩
  have key : ∀ (hr : va_Run p l e R s m args below meth c H locs cs ss mc ms (F0 m pc ls ((as.reverse ++ .ref k :: st).map (ax_v G))) (st.map (ax_v G)) (ax_Qc G none g' n' (Value.ref (G.2.1 + k) :: as.map (ax_v G)).toArray) (fun q => G.2.1 ≤ q)), W p l e R s m args below meth c H locs cs ss Q (F0 m pc ls ((as.reverse ++ .ref k :: st).map (ax_v G))) := fun hr => ax_after hr hL fun H1 locs1 hR1 hL1 => kk ls H1 locs1 hl hR1 hL1
  have hlen : (as.map (ax_v G)).length = nA := by rw [List.length_map]; exact hn
  have hstk : (as.reverse ++ .ref k :: st).map (ax_v G) = (as.map (ax_v G)).reverse ++ .ref (G.2.1 + k) :: st.map (ax_v G) := by rw [List.map_append, List.map_reverse]; rfl
  have hW8 : 2 * (F0 m pc ls ((as.reverse ++ .ref k :: st).map (ax_v G))).monitorRoom + ((st.map (ax_v G)).map fun v => v.category).sum ≤ 8 := by
    rw [ax_sum_map]; show 2 * 0 + _ ≤ 8; omega
  rcases hw with hw | ⟨host, hw⟩
  · exact key (va_runI ⟨hx, hb, hml, hown, hts⟩ hM ⟨callB_of nA hts (ax_good hcw) rfl rfl rfl (hts _ hin) (hts _ hw) hyy hroom, hy1, hts _ hst⟩ hp rfl hlen (hl.1) hstk hW8 hd ⟨hcs, hss⟩)
  · exact key (va_runIN ⟨hx, hb, hml, hown, hts⟩ hM ⟨va_cnB nA hts (ax_good hcw) rfl rfl rfl (hX.2.1 _ hw rfl) (hts _ hin) hyy hroom, hy1, hts _ hst⟩ hp rfl hlen (hl.1) hstk hW8 hd ⟨hcs, hss⟩)
theorem ax_objInit (M : ax_M G p s m args meth c own cc nL) {k : Nat} (hw : Cond.methodLink own idx objectInit ∈ ax_G) (h1 : Cond.instanceMethod objectInit ∈ ax_G) (h2 : Cond.code objectInit ⟨#[0xb1]⟩ 1 none ∈ ax_G) (hf : 1 ≤ R.frames) (hlo : 20 ≤ R.locals) (hsum : ax_sum st ≤ 8)
    (hd : decode cc pc = .ok (.invokespecial idx, 3)) (kk : ax_W G p l e R s m args below meth c Q nL (pc + 3) lv st g n cs ss) : ax_W G p l e R s m args below meth c Q nL pc lv (.ref k :: st) g n cs ss := by
  intro ls H locs hl hR hL
  obtain ⟨hx, hb, hml, hown, hts, -, hX⟩ := M
  refine W.objInit hx hb hown (hts _ hw) (hts _ h1) (hts _ h2) rfl (by rw [hml]; exact hl.1) rfl hd hf ?_ (kk ls H locs hl hR hL)
  rw [ax_sum_map]; show 2 * 0 + _ + 12 ≤ R.locals; omega
end AXA
