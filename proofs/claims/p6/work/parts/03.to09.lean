section
/-! ===== A memory of numbered cells: cell k lies at the address B + k; the cells below B are as they were at the law's start ===== -/
/-- the classes whose objects there are -/
def ax_cl : List vw_C := [(RX0, TX0, 6), (RX1, TX1, 3), (RX2, TX2, 12), (RX3, TX3, 3), (RX4, TX4, 2), (RX5, TX5, 2), (RX5, TX5, 2), (RX7, TX7, 9), (RX8, TX8, 4), (RX9, TX9, 10), (RX10, TX10, 11), (RX11, TX11, 48)]
def ax_ty (ci k : Nat) : FieldType := match ci with
  | 0 => tyX0 k | 1 => tyX1 k | 2 => tyX2 k | 3 => tyX3 k | 4 => tyX4 k | 5 => tyX5 k | 6 => tyX5 k | 7 => tyX7 k | 8 => tyX8 k | 9 => tyX9 k | 10 => tyX10 k | _ => tyX11 k
theorem ax_ty_ok {ci N : Nat} {C : String} {T : u_T} (h : ax_cl[ci]? = some (C, T, N)) : ∀ k, k < N → parseFieldDescriptor (T k).2.2.1 = some (ax_ty ci k) := by
  match ci, h with
  | 0, h => cases h; exact tyX0_ok
  | 1, h => cases h; exact tyX1_ok
  | 2, h => cases h; exact tyX2_ok
  | 3, h => cases h; exact tyX3_ok
  | 4, h => cases h; exact tyX4_ok
  | 5, h => cases h; exact tyX5_ok
  | 6, h => cases h; exact tyX5_ok
  | 7, h => cases h; exact tyX7_ok
  | 8, h => cases h; exact tyX8_ok
  | 9, h => cases h; exact tyX9_ok
  | 10, h => cases h; exact tyX10_ok
  | 11, h => cases h; exact tyX11_ok
  | n + 12, h => simp [ax_cl] at h
theorem ax_nm {ci N : Nat} {C : String} {T : u_T} (h : ax_cl[ci]? = some (C, T, N)) : ∀ a, a < N → ∀ b, b < N → a ≠ b → (T a).2.1 ≠ (T b).2.1 := by
  match ci, h with
  | 0, h => cases h; exact nmX0
  | 1, h => cases h; exact nmX1
  | 2, h => cases h; exact nmX2
  | 3, h => cases h; exact nmX3
  | 4, h => cases h; exact nmX4
  | 5, h => cases h; exact nmX5
  | 6, h => cases h; exact nmX5
  | 7, h => cases h; exact nmX7
  | 8, h => cases h; exact nmX8
  | 9, h => cases h; exact nmX9
  | 10, h => cases h; exact nmX10
  | 11, h => cases h; exact nmX11
  | n + 12, h => simp [ax_cl] at h
/-- the words that stay through calls -/
def ax_G : List Cond := lw_tbl.filter goodWord
theorem ax_G_in {w : Cond} (h : w ∈ lw_tbl) (hg : goodWord w = true) : w ∈ ax_G := List.mem_filter.mpr ⟨h, hg⟩
theorem ax_lays_all : ax_cl.all (fun q => (u_ws q.1 q.2.1 q.2.2).all (fun w => lw_tbl.contains w && goodWord w)) = true := by decide +kernel
theorem ax_lay {ci N : Nat} {C : String} {T : u_T} (h : ax_cl[ci]? = some (C, T, N)) : ∀ w ∈ u_ws C T N, w ∈ ax_G := by
  intro w hw
  have h1 := List.all_eq_true.mp (List.all_eq_true.mp ax_lays_all _ (List.mem_of_getElem? h)) w hw
  simp only [Bool.and_eq_true] at h1
  exact ax_G_in (by simpa using h1.1) h1.2
def ax_nest : Cond → Bool
  | .fieldLinkNest _ _ _ _ _ _ => true
  | .methodLinkNest _ _ _ _ => true
  | _ => false
/-- static arrays: class, field, contents -/
def ax_st : List (String × String × List Int32) := [("LetterSums", "WORTH", [1, 5, 10, 50, 100, 500, 1000, 1000, 5000, 10000, 50000, 100000, 500000, 1000000]), ("LetterSums$Abacus", "BUNDLE", [5, 2, 5, 2, 5, 2])]
/-- element types of the arrays that are made -/
def ax_tn : List FieldType := [.int, .byte, .object "LetterSums$Row", .object "LetterSums$Custom", .object "LetterSums$Mason"]
/-- an abstract cell: an array (number of its type, length, contents), or an object (number of its class, fields). References are numbers of cells -/
abbrev ax_C : Type := (Nat × Nat × ((Nat → Int32) ⊕ (Nat → Option Nat))) ⊕ (Nat × List Value)
/-- D, B, the heap at the law's start, what the symbols stand for, addresses of the static arrays, array classes -/
abbrev ax_T : Type := va_G × Nat × Heap × (Nat → Int32) × (Nat → Nat) × List (ClassId × FieldType)
/-- an abstract value: .ref k is cell k, .float u the symbol u (an int), .retAddr j static array j -/
def ax_v (G : ax_T) : Value → Value
  | .ref k => .ref (G.2.1 + k)
  | .float u => .int (G.2.2.2.1 u.toNat)
  | .retAddr j => .ref (G.2.2.2.2.1 j)
  | .int x => .int x
  | .long x => .long x
  | .double x => .double x
  | .null => .null
theorem ax_cat (G : ax_T) (v : Value) : (ax_v G v).category = v.category := by cases v <;> rfl
def ax_e (G : ax_T) : ax_C → va_E
  | .inl (t, n, .inl f) => .inl ((G.2.2.2.2.2.getD t (0, .int)).1, n, .inl f)
  | .inl (t, n, .inr f) => .inl ((G.2.2.2.2.2.getD t (0, .int)).1, n, .inr (.inr (.inr (.inr (fun j => (f j).map (G.2.1 + ·))))))
  | .inr (ci, fs) => .inr (ci, fs.map (ax_v G))
def ax_R (G : ax_T) (g : Nat → Option ax_C) (n : Nat) (H : Heap) : Prop :=
  H.size = G.2.1 + n ∧ (∀ (k : Nat) (c : ax_C), g k = some c → va_at G.1 ax_cl (G.2.1 + k, ax_e G c) H) ∧ ∀ q : Nat, q < G.2.1 → H[q]? = G.2.2.1[q]?
theorem ax_R.set {G : ax_T} {g g' : Nat → Option ax_C} {n k : Nat} {c : ax_C} {H H1 : Heap} (h : ax_R G g n H) (hz : H1.size = H.size) (ho : ∀ q : Nat, q ≠ G.2.1 + k → H1[q]? = H[q]?) (hc : va_at G.1 ax_cl (G.2.1 + k, ax_e G c) H1)
    (hg : ∀ (j : Nat) (d : ax_C), g' j = some d → (j = k ∧ d = c) ∨ (j ≠ k ∧ g j = some d)) : ax_R G g' n H1 := by
  refine ⟨hz.trans h.1, fun j d hd => ?_, fun q hq => ?_⟩
  · rcases hg j d hd with ⟨rfl, rfl⟩ | ⟨hj, hd⟩
    · exact hc
    · exact (h.2.1 j d hd).kept (ho _ (by simp only; omega))
  · rw [ho q (by omega)]; exact h.2.2 q hq
theorem ax_R.push {G : ax_T} {g g' : Nat → Option ax_C} {n : Nat} {c : ax_C} {H H1 : Heap} (h : ax_R G g n H) (hz : H1.size = H.size + 1) (ho : ∀ q : Nat, q < H.size → H1[q]? = H[q]?) (hc : va_at G.1 ax_cl (G.2.1 + n, ax_e G c) H1)
    (hg : ∀ (j : Nat) (d : ax_C), g' j = some d → (j = n ∧ d = c) ∨ g j = some d) : ax_R G g' (n + 1) H1 := by
  refine ⟨by rw [hz, h.1]; omega, fun j d hd => ?_, fun q hq => ?_⟩
  · rcases hg j d hd with ⟨rfl, rfl⟩ | hd
    · exact hc
    · exact (h.2.1 j d hd).kept (ho _ (h.2.1 j d hd).lt)
  · rw [ho q (by rw [h.1]; omega)]; exact h.2.2 q hq
/-- the text of the signs' letters: the constant's String, its bytes -/
def sx_L : List Int32 := [73, 86, 88, 76, 67, 68, 77, 105, 118, 120, 108, 99, 100, 109]
def sx_S (G : ax_T) (U : State) : Prop := ∃ sa va : Nat, vk_R "LetterSums" 314 "IVXLCDMivxlcdm" sa U ∧ va_Z "java/lang/String" "COMPACT_STRINGS" "Z" (.int 1) (fun q => G.2.1 ≤ q) U G.2.2.1 ∧ va_O "java/lang/String" sa (fun q => G.2.1 ≤ q) U G.2.2.1 ∧ va_OF "java/lang/String" "coder" "B" (.int 0) sa (fun q => G.2.1 ≤ q) U G.2.2.1 ∧ va_OF "java/lang/String" "value" "[B" (.ref va) sa (fun q => G.2.1 ≤ q) U G.2.2.1 ∧ va_T .byte va 14 (fun j => .int (sx_L.getD j 0)) (fun q => G.2.1 ≤ q) U G.2.2.1
theorem sx_S.warm {G : ax_T} {s U : State} (hW : s.WarmedH U.vm) (h : sx_S G s) : sx_S G U := by
  obtain ⟨sa, va, h1, h2, h3, h4, h5, h6⟩ := h
  exact ⟨sa, va, h1.warm hW, h2.moved hW.alike, h3.moved hW.alike, h4.moved hW.alike, h5.moved hW.alike, h6.moved hW.alike⟩
theorem sx_S.same {G : ax_T} {s U : State} (hv : s.vm = U.vm) (h : sx_S G s) : sx_S G U := by
  obtain ⟨sa, va, h1, h2, h3, h4, h5, h6⟩ := h
  have ha : s.vm.Alike U.vm := by rw [hv]; exact Vm.Alike.refl _
  exact ⟨sa, va, h1.same hv.symm, h2.moved ha, h3.moved ha, h4.moved ha, h5.moved ha, h6.moved ha⟩
/-- what stands through all: the classes, the nest mates' words, array classes, the static arrays -/
def ax_X (G : ax_T) (U : State) : Prop :=
  va_K G.1 ax_cl G.2.2.2.2.2 U ∧ (∀ w ∈ lw_tbl, ax_nest w = true → va_Nw w U) ∧ (va_AO "LetterSums$Row" U ∧ va_AO "LetterSums$Custom" U ∧ va_AO "LetterSums$Mason" U ∧ sx_S G U) ∧
  (∀ (j : Nat) (z : String × String × List Int32), ax_st[j]? = some z → va_Z z.1 z.2.1 "[I" (.ref (G.2.2.2.2.1 j)) (fun q => G.2.1 ≤ q) U G.2.2.1 ∧ va_T .int (G.2.2.2.2.1 j) z.2.2.length (fun i => .int (z.2.2.getD i 0)) (fun q => G.2.1 ≤ q) U G.2.2.1) ∧
  G.2.2.2.2.2.map (·.2) = ax_tn
theorem ax_Nw_warm {w : Cond} (hn : ax_nest w = true) {s U : State} (hW : s.WarmedH U.vm) (h : va_Nw w s) : va_Nw w U := by
  cases w <;> first | exact va_Nw.warmF hW h | exact va_Nw.warmM hW h | (simp [ax_nest] at hn)
theorem ax_X.warm {G : ax_T} {s U : State} (hW : s.WarmedH U.vm) (h : ax_X G s) : ax_X G U := by
  obtain ⟨h1, h2, ⟨h3, h4, h5, h8⟩, h6, h7⟩ := h
  exact ⟨va_K.moved hW.alike h1, fun w hw hn => ax_Nw_warm hn hW (h2 w hw hn), ⟨h3.moved hW.alike, h4.moved hW.alike, h5.moved hW.alike, h8.warm hW⟩, fun j z hz => ⟨(h6 j z hz).1.moved hW.alike, (h6 j z hz).2.moved hW.alike⟩, h7⟩
theorem ax_X.same {G : ax_T} {s U : State} (hv : s.vm = U.vm) (h : ax_X G s) : ax_X G U := by
  obtain ⟨h1, h2, ⟨h3, h4, h5, h8⟩, h6, h7⟩ := h
  have ha : s.vm.Alike U.vm := by rw [hv]; exact Vm.Alike.refl _
  refine ⟨va_K.moved ha h1, fun w hw hn => ?_, ⟨h3.moved ha, h4.moved ha, h5.moved ha, h8.same hv⟩, fun j z hz => ⟨(h6 j z hz).1.moved ha, (h6 j z hz).2.moved ha⟩, h7⟩
  have hk := h2 w hw hn
  cases w <;> first | exact va_Nw.same rfl hv hk | (simp [ax_nest] at hn)
/-- what is known inside a method -/
def ax_M (G : ax_T) (p : Program) (s : State) (m : MethodId) (args : Array Value) (meth : Method) (c : Code) (own : String) (cc : ByteArray) (nL : Nat) : Prop :=
  p.tables.exec = Jvm.exec ∧ c.code = cc ∧ c.maxLocals = nL ∧ s.vm.findClass own = some m.cls ∧ (∀ w ∈ ax_G, w.before args s = true) ∧ meth.locks = false ∧ ax_X G s
section AXW
variable {G : ax_T} {p : Program} {l : Launch} {e : Env} {R : Room} {s : State} {m : MethodId} {args : Array Value} {below : List Frame} {meth : Method} {c : Code} {Q : State → Prop} {own : String} {cc : ByteArray} {nL : Nat}
/-- the machine, in a frame of the method, over the numbered cells g (n of them), comes to Q -/
def ax_W (G : ax_T) (p : Program) (l : Launch) (e : Env) (R : Room) (s : State) (m : MethodId) (args : Array Value) (below : List Frame) (meth : Method) (c : Code) (Q : State → Prop) (nL : Nat) (pc : Nat) (lv : List (Nat × Value)) (st : List Value) (g : Nat → Option ax_C) (n cs ss : Nat) : Prop :=
  ∀ (ls : Array Slot) (H : Heap) (locs : List Loc), lv_has ls nL (lv.map fun q => (q.1, ax_v G q.2)) → ax_R G g n H → (∀ q ∈ locs, G.2.1 ≤ q.base) → W p l e R s m args below meth c H locs cs ss Q (F0 m pc ls (st.map (ax_v G)))
theorem ax_P1 {D : va_G} {cl : List vw_C} {q : Nat × va_E} {H : Heap} (h : va_at D cl q H) : va_P D cl [q] H := by
  intro k r hk
  cases k with
  | zero => cases hk; exact h
  | succ k => simp at hk
variable {pc : Nat} {lv : List (Nat × Value)} {st : List Value} {g g' : Nat → Option ax_C} {n cs ss : Nat}
theorem ax_getf (M : ax_M G p s m args meth c own cc nL) {k ci j N idx : Nat} {fs : List Value} {C : String} {T : u_T} {v : Value} (hk : g k = some (.inr (ci, fs))) (hc : ax_cl[ci]? = some (C, T, N)) (hj : j < N) (hv : fs[j]? = some v)
    (hw : Cond.fieldLink own idx (T j).1 (T j).2.1 (T j).2.2.1 ∈ ax_G ∨ ∃ host, Cond.fieldLinkNest own idx (T j).1 (T j).2.1 (T j).2.2.1 host ∈ lw_tbl) (hd : decode cc pc = .ok (.getfield idx, 3))
    (kk : ax_W G p l e R s m args below meth c Q nL (pc + 3) lv (v :: st) g n cs ss) : ax_W G p l e R s m args below meth c Q nL pc lv (.ref k :: st) g n cs ss := by
  intro ls H locs hl hR hL
  obtain ⟨hx, hb, -, hown, hts, -, hX⟩ := M
  have hP := ax_P1 (hR.2.1 k _ hk)
  have hv' : (fs.map (ax_v G))[j]? = some (ax_v G v) := by rw [List.getElem?_map, hv]; rfl
  rcases hw with hw | ⟨host, hw⟩
  · exact va_get hx hb hts (ax_lay hc) hown hX.1 hP 0 rfl hc j hj (hts _ hw) (fun _ h => h) hv' hd (kk ls H locs hl hR hL)
  · exact va_getN hx hb hts (ax_lay hc) hown hX.1 hP 0 rfl hc j hj (va_Nw.use rfl (hX.2.1 _ hw rfl)) (fun _ h => h) hv' hd (kk ls H locs hl hR hL)
/-- a field is written (not final) -/
theorem ax_putf (M : ax_M G p s m args meth c own cc nL) {k ci j N idx : Nat} {fs : List Value} {C : String} {T : u_T} {v : Value} (hk : g k = some (.inr (ci, fs))) (hc : ax_cl[ci]? = some (C, T, N)) (hj : j < N) (hf : j < fs.length)
    (hw : (Cond.fieldLink own idx (T j).1 (T j).2.1 (T j).2.2.1 ∈ ax_G) ∨ ∃ host, Cond.fieldLinkNest own idx (T j).1 (T j).2.1 (T j).2.2.1 host ∈ lw_tbl) (hfin : (T j).2.2.2 = false)
    (hnar : narrow (ax_ty ci j) (ax_v G v) = ax_v G v) (hfit : fits (ax_ty ci j) (ax_v G v) = true) (hd : decode cc pc = .ok (.putfield idx, 3))
    (hg : ∀ (i : Nat) (d : ax_C), g' i = some d → (i = k ∧ d = .inr (ci, fs.set j v)) ∨ (i ≠ k ∧ g i = some d))
    (kk : ax_W G p l e R s m args below meth c Q nL (pc + 3) lv st g' n cs ss) : ax_W G p l e R s m args below meth c Q nL pc lv (v :: .ref k :: st) g n cs ss := by
  intro ls H locs hl hR hL
  obtain ⟨hx, hb, -, hown, hts, -, hX⟩ := M
  have hap := va_apart (own := own) hts (ax_lay hc) (ax_ty ci) (ax_ty_ok hc) (ax_nm hc) hX.1 hc
  obtain ⟨r, h1, cell, q1, q2, q3, q4⟩ := hR.2.1 k _ hk
  have hr : r = (C, T, N) := Option.some.inj (h1.symm.trans hc)
  subst hr
  obtain ⟨hS, hfc, kC, hkC, hkind⟩ := hX.1.1 ci _ hc
  obtain ⟨cf, kf, fi, f, hi, hsl⟩ := hS j hj
  have hlay := hts _ (ax_lay hc _ (u_in_lay hj))
  unfold u_lay at hlay
  rw [if_neg (by rw [hfin]; decide)] at hlay
  have hst := (u_facts hfc hkC (u_lays hts (ax_lay hc) hj) hi).1
  have h6 := u_store hfc hkC hkind hlay hi (ax_ty_ok hc j hj) hnar hfit
  have fin : ∀ H' : Heap, H'[G.2.1 + k]? = some (cell.setSlot f.slot (ax_v G v)) → H'.size = H.size → (∀ q, q ≠ G.2.1 + k → H'[q]? = H[q]?) → W p l e R s m args below meth c H' (locs ++ [⟨G.2.1 + k, f.slot⟩]) cs ss Q (F0 m (pc + 3) ls (st.map (ax_v G))) := by
    intro H' e1 e2 e3
    refine kk ls H' _ hl (hR.set (c := .inr (ci, fs.set j v)) e2 e3 ⟨_, hc, t_OB.to (V := updV (vp_V (fs.map (ax_v G))) j (ax_v G v)) ⟨_, e1, q2, q3, ?_⟩ (fun i _ => ?_)⟩ hg) ?_
    · rw [hsl]; exact t_set q4 hap hj _
    · rw [vp_updV_set (by simpa using hf)]; simp [List.map_set]
    · intro q hq
      rcases List.mem_append.mp hq with h | h
      · exact hL q h
      · rw [List.mem_singleton.mp h]; exact Nat.le_add_right _ _
  rcases hw with hw | ⟨host, hw⟩
  · exact W.putK hx hb (f := f) ⟨hown, hts _ hw, ⟨_, _, _, hi⟩, hst⟩ (by rw [q2]; exact h6) q1 q3 (by rw [hsl]; exact k2_hasslot (q4 j hj)) rfl rfl hd fin
  · exact va_WputK hx hb (f := f) hown (va_Nw.use rfl (hX.2.1 _ hw rfl)) hi hst (by rw [q2]; exact h6) q1 q3 (by rw [hsl]; exact k2_hasslot (q4 j hj)) rfl rfl hd fin
/-- a final field is written in its constructor -/
theorem ax_putF (M : ax_M G p s m args meth c own cc nL) {k ci j N idx : Nat} {fs : List Value} {C : String} {T : u_T} {v : Value} (hk : g k = some (.inr (ci, fs))) (hc : ax_cl[ci]? = some (C, T, N)) (hj : j < N) (hf : j < fs.length)
    (hw : Cond.fieldLink own idx (T j).1 (T j).2.1 (T j).2.2.1 ∈ ax_G) (hfin : (T j).2.2.2 = true) (hin : meth.name = "<init>") (hdecl : (T j).1 = own)
    (hnar : narrow (ax_ty ci j) (ax_v G v) = ax_v G v) (hfit : fits (ax_ty ci j) (ax_v G v) = true) (hd : decode cc pc = .ok (.putfield idx, 3))
    (hg : ∀ (i : Nat) (d : ax_C), g' i = some d → (i = k ∧ d = .inr (ci, fs.set j v)) ∨ (i ≠ k ∧ g i = some d))
    (kk : ax_W G p l e R s m args below meth c Q nL (pc + 3) lv st g' n cs ss) : ax_W G p l e R s m args below meth c Q nL pc lv (v :: .ref k :: st) g n cs ss := by
  intro ls H locs hl hR hL
  obtain ⟨hx, hb, -, hown, hts, -, hX⟩ := M
  have hap := va_apart (own := own) hts (ax_lay hc) (ax_ty ci) (ax_ty_ok hc) (ax_nm hc) hX.1 hc
  obtain ⟨r, h1, cell, q1, q2, q3, q4⟩ := hR.2.1 k _ hk
  have hr : r = (C, T, N) := Option.some.inj (h1.symm.trans hc)
  subst hr
  obtain ⟨hS, hfc, kC, hkC, hkind⟩ := hX.1.1 ci _ hc
  obtain ⟨cf, kf, fi, f, hi, hsl⟩ := hS j hj
  have hlay := hts _ (ax_lay hc _ (u_in_lay hj))
  unfold u_lay at hlay
  rw [if_pos hfin] at hlay
  have hst := (u_facts hfc hkC (u_lays hts (ax_lay hc) hj) hi).1
  have hcf : m.cls = cf := by
    obtain ⟨_, _, c', _, _, _, -, -, hf', -, -, -, hown2, -⟩ := Cond.laysFinal_spec hlay
    have e1 : c' = cf := by have := hi.symm.trans hf'; simp at this; exact this.1.symm
    rw [hdecl] at hown2
    rw [← e1]; exact Option.some.inj (hown.symm.trans hown2)
  have h6 := u_fits hfc hkC hkind (Or.inr hlay) hi (ax_ty_ok hc j hj) hnar hfit
  refine W.putFinK hx hb hown (hts _ hw) hi hst hcf hin (by rw [q2]; exact h6) q1 q3 (by rw [hsl]; exact k2_hasslot (q4 j hj)) rfl rfl hd fun H' e1 e2 e3 => ?_
  refine kk ls H' _ hl (hR.set (c := .inr (ci, fs.set j v)) e2 e3 ⟨_, hc, t_OB.to (V := updV (vp_V (fs.map (ax_v G))) j (ax_v G v)) ⟨_, e1, q2, q3, ?_⟩ (fun i _ => ?_)⟩ hg) ?_
  · rw [hsl]; exact t_set q4 hap hj _
  · rw [vp_updV_set (by simpa using hf)]; simp [List.map_set]
  · intro q hq
    rcases List.mem_append.mp hq with h | h
    · exact hL q h
    · rw [List.mem_singleton.mp h]; exact Nat.le_add_right _ _
end AXW
end
section
/-! ===== arrays, new cells, static arrays, locals, calls over the numbered cells ===== -/
section AXA
variable {G : ax_T} {p : Program} {l : Launch} {e : Env} {R : Room} {s : State} {m : MethodId} {args : Array Value} {below : List Frame} {meth : Method} {c : Code} {Q : State → Prop} {own : String} {cc : ByteArray} {nL : Nat}
variable {pc : Nat} {lv : List (Nat × Value)} {st : List Value} {g g' : Nat → Option ax_C} {n cs ss : Nat}
theorem ax_tt {U : State} (h : ax_X G U) {t : Nat} {ty : FieldType} (ht : ax_tn[t]? = some ty) : G.2.2.2.2.2[t]? = some ((G.2.2.2.2.2.getD t (0, .int)).1, ty) := by
  have h1 := h.2.2.2.2
  rw [← h1, List.getElem?_map] at ht
  cases h2 : G.2.2.2.2.2[t]? with
  | none => rw [h2] at ht; cases ht
  | some q =>
    rw [h2] at ht
    have h3 : q.2 = ty := Option.some.inj ht
    rw [List.getD_eq_getElem?_getD, h2]
    subst h3
    rfl
theorem ax_iald (M : ax_M G p s m args meth c own cc nL) {k t N : Nat} {f : Nat → Int32} (hk : g k = some (.inl (t, N, .inl f))) (ht : ax_tn[t]? = some .int) {i : Int32} (hi : vp_in i N) (hd : decode cc pc = .ok (.iaload, 1))
    (kk : ax_W G p l e R s m args below meth c Q nL (pc + 1) lv (.int (f i.toNatClampNeg) :: st) g n cs ss) : ax_W G p l e R s m args below meth c Q nL pc lv (.int i :: .ref k :: st) g n cs ss := by
  intro ls H locs hl hR hL
  obtain ⟨hx, hb, -, hown, hts, -, hX⟩ := M
  exact va_iald hx hb hX.1 (ax_P1 (hR.2.1 k _ hk)) 0 t rfl (ax_tt hX ht) hi hd (kk ls H locs hl hR hL)
theorem ax_bald (M : ax_M G p s m args meth c own cc nL) {k t N : Nat} {f : Nat → Int32} (hk : g k = some (.inl (t, N, .inl f))) (ht : ax_tn[t]? = some .byte) {i : Int32} (hi : vp_in i N) (hd : decode cc pc = .ok (.baload, 1))
    (kk : ax_W G p l e R s m args below meth c Q nL (pc + 1) lv (.int (f i.toNatClampNeg) :: st) g n cs ss) : ax_W G p l e R s m args below meth c Q nL pc lv (.int i :: .ref k :: st) g n cs ss := by
  intro ls H locs hl hR hL
  obtain ⟨hx, hb, -, hown, hts, -, hX⟩ := M
  exact va_bald hx hb hX.1 (ax_P1 (hR.2.1 k _ hk)) 0 t rfl (ax_tt hX ht) hi hd (kk ls H locs hl hR hL)
theorem ax_alen (M : ax_M G p s m args meth c own cc nL) {k t N : Nat} {f : Nat → Int32} (hk : g k = some (.inl (t, N, .inl f))) {ty : FieldType} (ht : ax_tn[t]? = some ty) (hd : decode cc pc = .ok (.arraylength, 1))
    (kk : ax_W G p l e R s m args below meth c Q nL (pc + 1) lv (.int (Int32.ofNat N) :: st) g n cs ss) : ax_W G p l e R s m args below meth c Q nL pc lv (.ref k :: st) g n cs ss := by
  intro ls H locs hl hR hL
  obtain ⟨hx, hb, -, hown, hts, -, hX⟩ := M
  exact va_alen hx hb hX.1 (ax_P1 (hR.2.1 k _ hk)) 0 t rfl (ax_tt hX ht) rfl hd (kk ls H locs hl hR hL)
theorem ax_aald (M : ax_M G p s m args meth c own cc nL) {k t N k' : Nat} {C : String} {f : Nat → Option Nat} (hk : g k = some (.inl (t, N, .inr f))) (ht : ax_tn[t]? = some (.object C)) {i : Int32} (hi : vp_in i N) (hv : f i.toNatClampNeg = some k') (hd : decode cc pc = .ok (.aaload, 1))
    (kk : ax_W G p l e R s m args below meth c Q nL (pc + 1) lv (.ref k' :: st) g n cs ss) : ax_W G p l e R s m args below meth c Q nL pc lv (.int i :: .ref k :: st) g n cs ss := by
  intro ls H locs hl hR hL
  obtain ⟨hx, hb, -, hown, hts, -, hX⟩ := M
  refine va_aldq hx hb hX.1 (ax_P1 (hR.2.1 k _ hk)) 0 t rfl (ax_tt hX ht) hi hd ?_
  have h := kk ls H locs hl hR hL
  simp only [hv]
  exact h
theorem ax_locs {L : List Loc} {q : Loc} (hL : ∀ q ∈ L, G.2.1 ≤ q.base) (hq : G.2.1 ≤ q.base) : ∀ r ∈ L ++ [q], G.2.1 ≤ r.base := by
  intro r hr
  rcases List.mem_append.mp hr with h | h
  · exact hL r h
  · rw [List.mem_singleton.mp h]; exact hq
theorem ax_iast (M : ax_M G p s m args meth c own cc nL) {k t N : Nat} {f : Nat → Int32} (hk : g k = some (.inl (t, N, .inl f))) (ht : ax_tn[t]? = some .int) {i x : Int32} (hi : vp_in i N) (hd : decode cc pc = .ok (.iastore, 1))
    (hg : ∀ (j : Nat) (d : ax_C), g' j = some d → (j = k ∧ d = .inl (t, N, .inl (upd f i.toNatClampNeg x))) ∨ (j ≠ k ∧ g j = some d))
    (kk : ax_W G p l e R s m args below meth c Q nL (pc + 1) lv st g' n cs ss) : ax_W G p l e R s m args below meth c Q nL pc lv (.int x :: .int i :: .ref k :: st) g n cs ss := by
  intro ls H locs hl hR hL
  obtain ⟨hx, hb, -, hown, hts, -, hX⟩ := M
  refine W.iast hx hb (hR.2.1 k _ hk) ((hX.1.2 t _ (ax_tt hX ht)).1 N (fun j => .int (f j))) (fun q => by cases q) (by show ¬ (i < 0 ∨ (arrV _ _ _).slots.size ≤ _); rw [arrV_size]; exact hi) rfl rfl hd fun H1 e1 z oq => ?_
  refine kk ls H1 _ hl (hR.set (c := .inl (t, N, .inl (upd f i.toNatClampNeg x))) z oq ?_ hg) (ax_locs hL (Nat.le_add_right _ _))
  show H1[G.2.1 + k]? = some (vp_cell _ _)
  rw [e1, vp_cell_i, vp_cell_i, arrV_store]
  congr 2
  funext q
  by_cases hq : q = i.toNatClampNeg
  · subst hq; simp [updV, upd]
  · simp [updV, upd, hq]
theorem ax_bast (M : ax_M G p s m args meth c own cc nL) {k t N : Nat} {f : Nat → Int32} (hk : g k = some (.inl (t, N, .inl f))) (ht : ax_tn[t]? = some .byte) {i x : Int32} (hi : vp_in i N) (hd : decode cc pc = .ok (.bastore, 1))
    (hg : ∀ (j : Nat) (d : ax_C), g' j = some d → (j = k ∧ d = .inl (t, N, .inl (upd f i.toNatClampNeg (vp_nar .byte x)))) ∨ (j ≠ k ∧ g j = some d))
    (kk : ax_W G p l e R s m args below meth c Q nL (pc + 1) lv st g' n cs ss) : ax_W G p l e R s m args below meth c Q nL pc lv (.int x :: .int i :: .ref k :: st) g n cs ss := by
  intro ls H locs hl hR hL
  obtain ⟨hx, hb, -, hown, hts, -, hX⟩ := M
  refine W.bast hx hb (hR.2.1 k _ hk) ((hX.1.2 t _ (ax_tt hX ht)).1 N (fun j => .int (f j))) (fun q => by cases q) (by show ¬ (i < 0 ∨ (arrV _ _ _).slots.size ≤ _); rw [arrV_size]; exact hi) rfl rfl hd fun H1 e1 z oq => ?_
  refine kk ls H1 _ hl (hR.set (c := .inl (t, N, .inl (upd f i.toNatClampNeg (vp_nar .byte x)))) z oq ?_ hg) (ax_locs hL (Nat.le_add_right _ _))
  show H1[G.2.1 + k]? = some (vp_cell _ _)
  rw [e1, vp_cell_i, vp_cell_i, arrV_store]
  congr 2
  funext q
  by_cases hq : q = i.toNatClampNeg
  · subst hq; simp [updV, upd, vp_nar]; try rfl
  · simp [updV, upd, hq]
theorem ax_aast (M : ax_M G p s m args meth c own cc nL) {k t N k' ci : Nat} {C : String} {T : u_T} {N' : Nat} {fs : List Value} {f : Nat → Option Nat} (hk : g k = some (.inl (t, N, .inr f))) (ht : ax_tn[t]? = some (.object C)) (hk' : g k' = some (.inr (ci, fs))) (hc : ax_cl[ci]? = some (C, T, N')) {i : Int32} (hi : vp_in i N) (hd : decode cc pc = .ok (.aastore, 1))
    (hg : ∀ (j : Nat) (d : ax_C), g' j = some d → (j = k ∧ d = .inl (t, N, .inr (va_up f i.toNatClampNeg (some k')))) ∨ (j ≠ k ∧ g j = some d))
    (kk : ax_W G p l e R s m args below meth c Q nL (pc + 1) lv st g' n cs ss) : ax_W G p l e R s m args below meth c Q nL pc lv (.ref k' :: .int i :: .ref k :: st) g n cs ss := by
  intro ls H locs hl hR hL
  obtain ⟨hx, hb, -, hown, hts, -, hX⟩ := M
  have hlt : i.toNatClampNeg < N := Nat.not_le.mp fun q => hi (Or.inr q)
  have h0 : ¬ i < 0 := fun q => hi (Or.inl q)
  obtain ⟨r', hr', cellV, g1, g2, g3, -⟩ := hR.2.1 k' _ hk'
  have hcls := (hX.1.1 ci _ hc).2
  obtain ⟨kA, comp, k1, k2, k3, -⟩ := (hX.1.2 t _ (ax_tt hX ht)).2
  have hcomp : comp = G.1.1 ci := Option.some.inj (k3.symm.trans hcls.1)
  subst hcomp
  obtain ⟨kC, hkC, -⟩ := hcls.2
  refine W.aast hx hb (hR.2.1 k _ hk) (fun q h => by cases h) (fun h => by cases h) k1 k2 rfl hkC ⟨h0, by show _ < (arrV _ _ _).slots.size; rw [arrV_size]; exact hlt⟩ g1 (fun q h => by rw [g3] at h; cases h) (by rw [g2]; exact hkC) (by rw [g2]; exact va_assign hcls) rfl rfl hd fun H1 e1 z oq => ?_
  refine kk ls H1 _ hl (hR.set (c := .inl (t, N, .inr (va_up f i.toNatClampNeg (some k')))) z oq ?_ hg) (ax_locs hL (Nat.le_add_right _ _))
  show H1[G.2.1 + k]? = some (vp_cell _ _)
  rw [e1, vp_cell_q, vp_cell_q, arrV_store]
  congr 2
  funext q
  by_cases hq : q = i.toNatClampNeg
  · subst hq; simp [updV, va_up, va_rf]
  · simp [updV, va_up, hq]
/-- a new object, its fields as they begin -/
def ax_born (ci N : Nat) : List Value := (List.range N).map fun k => defaultValue (ax_ty ci k)
theorem ax_v_default (G : ax_T) {ty : FieldType} (h : ty ≠ .float) : ax_v G (defaultValue ty) = defaultValue ty := by
  cases ty <;> first | rfl | (exact absurd rfl h)
def ax_nofl (ci N : Nat) : Bool := (List.range N).all fun k => decide (ax_ty ci k ≠ .float)
theorem ax_new (M : ax_M G p s m args meth c own cc nL) {ci N idx : Nat} {C : String} {T : u_T} (hc : ax_cl[ci]? = some (C, T, N)) (hw : Cond.classLink own idx C ∈ ax_G) (hi : Cond.instantiable C N ∈ ax_G) (hn : Cond.initialized C ∈ ax_G) (hnf : ax_nofl ci N = true) (hcs : cs + 1 ≤ R.cells) (hss : ss + N ≤ R.slots) (hd : decode cc pc = .ok (.new idx, 3))
    (hg : ∀ (j : Nat) (d : ax_C), g' j = some d → (j = n ∧ d = .inr (ci, ax_born ci N)) ∨ g j = some d)
    (kk : ax_W G p l e R s m args below meth c Q nL (pc + 3) lv (.ref n :: st) g' (n + 1) (cs + 1) (ss + N)) : ax_W G p l e R s m args below meth c Q nL pc lv st g n cs ss := by
  intro ls H locs hl hR hL
  obtain ⟨hx, hb, -, hown, hts, -, hX⟩ := M
  have hKn := hX.1.1 ci _ hc
  refine W.newcK hx hb hown (hts _ hw) (hts _ hi) (hts _ hn) rfl hd hcs hss hKn.2.1 hR.1 fun H1 kC hkC e1 z1 o1 => ?_
  refine kk ls H1 locs hl (hR.push (c := .inr (ci, ax_born ci N)) (by rw [z1, hR.1]) (fun q hq => o1 q (by rw [← hR.1]; exact hq)) ⟨_, hc, (u_born (ax_ty ci) hts (ax_lay hc) hKn hkC e1 (ax_ty_ok hc)).to fun j hj => ?_⟩ hg) hL
  have h2 : ax_ty ci j ≠ .float := by
    have := List.all_eq_true.mp hnf j (List.mem_range.mpr hj)
    simpa using this
  show defaultValue (ax_ty ci j) = ((ax_born ci N).map (ax_v G)).getD j .null
  rw [List.getD_eq_getElem?_getD, List.getElem?_map, ax_born, List.getElem?_map, List.getElem?_range hj]
  simp [ax_v_default G h2]
theorem ax_newa (M : ax_M G p s m args meth c own cc nL) {at0 : ArrayType} {t : Nat} {i : Int32} (hw : Cond.arrayClass (newarray.typeOf at0) ∈ ax_G) (ht : ax_tn[t]? = some (newarray.typeOf at0)) (ha : at0 = .int ∨ at0 = .byte) (hi : ¬ i < 0) (hby : i.toNatClampNeg * 8 ≤ 536870912) (hcs : cs + 1 ≤ R.cells) (hss : ss + i.toNatClampNeg ≤ R.slots) (hd : decode cc pc = .ok (.newarray at0, 2))
    (hg : ∀ (j : Nat) (d : ax_C), g' j = some d → (j = n ∧ d = .inl (t, i.toNatClampNeg, .inl (fun _ => 0))) ∨ g j = some d)
    (kk : ax_W G p l e R s m args below meth c Q nL (pc + 2) lv (.ref n :: st) g' (n + 1) (cs + 1) (ss + i.toNatClampNeg)) : ax_W G p l e R s m args below meth c Q nL pc lv (.int i :: st) g n cs ss := by
  intro ls H locs hl hR hL
  obtain ⟨hx, hb, -, hown, hts, -, hX⟩ := M
  have hbb : i.toNatClampNeg * componentBytes (newarray.typeOf at0) ≤ 536870912 := by
    rcases ha with rfl | rfl <;> (refine Nat.le_trans (Nat.mul_le_mul_left _ ?_) hby; decide)
  refine va_newaK hx hb (hts _ hw) rfl hd rfl hi rfl hbb hcs hss hR.1 fun H1 cA e1 z1 o1 hAr hNm => ?_
  have hcA : (G.2.2.2.2.2.getD t (0, .int)).1 = cA := by
    have h1 := (hX.1.2 t _ (ax_tt hX ht)).2
    rcases ha with rfl | rfl
    · exact Option.some.inj ((show s.vm.findClass _ = _ from h1).symm.trans hNm)
    · exact Option.some.inj ((show s.vm.findClass _ = _ from h1).symm.trans hNm)
  refine kk ls H1 locs hl (hR.push (c := .inl (t, i.toNatClampNeg, .inl (fun _ => 0))) (by rw [z1, hR.1]) (fun q hq => o1 q (by rw [← hR.1]; exact hq)) ?_ hg) hL
  show H1[G.2.1 + n]? = some (vp_cell _ _)
  rw [e1, vp_cell_i, hcA]
  rcases ha with rfl | rfl <;> rfl
theorem ax_newq (M : ax_M G p s m args meth c own cc nL) {C : String} {t idx : Nat} {i : Int32} (hw : Cond.classLink own idx C ∈ ax_G) (ht : ax_tn[t]? = some (.object C)) (hC : C = "LetterSums$Row" ∨ C = "LetterSums$Custom" ∨ C = "LetterSums$Mason") (hi : ¬ i < 0) (hby : i.toNatClampNeg * 4 ≤ 536870912) (hcs : cs + 1 ≤ R.cells) (hss : ss + i.toNatClampNeg ≤ R.slots) (hd : decode cc pc = .ok (.anewarray idx, 3))
    (hg : ∀ (j : Nat) (d : ax_C), g' j = some d → (j = n ∧ d = .inl (t, i.toNatClampNeg, .inr (fun _ => none))) ∨ g j = some d)
    (kk : ax_W G p l e R s m args below meth c Q nL (pc + 3) lv (.ref n :: st) g' (n + 1) (cs + 1) (ss + i.toNatClampNeg)) : ax_W G p l e R s m args below meth c Q nL pc lv (.int i :: st) g n cs ss := by
  intro ls H locs hl hR hL
  obtain ⟨hx, hb, -, hown, hts, -, hX⟩ := M
  have hover : va_AO C s := by rcases hC with rfl | rfl | rfl <;> first | exact hX.2.2.1.1 | exact hX.2.2.1.2.1 | exact hX.2.2.1.2.2.1
  refine W.anew hx hb hown (hts _ hw) (va_AO.use hover) rfl hd rfl hi hby hcs hss fun cA kA comp f1 f2 f3 f4 => ?_
  have hcA : (G.2.2.2.2.2.getD t (0, .int)).1 = cA := by
    obtain ⟨kA', comp', -, -, -, h4⟩ := (hX.1.2 t _ (ax_tt hX ht)).2
    exact Option.some.inj (h4.symm.trans f1)
  have e0 : H.size = G.2.1 + n := hR.1
  rw [e0]
  refine kk ls _ locs hl (hR.push (c := .inl (t, i.toNatClampNeg, .inr (fun _ => none))) (by simp) (fun q hq => by rw [Array.getElem?_push, if_neg (Nat.ne_of_lt hq)]) ?_ hg) hL
  show (H.push _)[G.2.1 + n]? = some (vp_cell _ _)
  rw [← e0, Array.getElem?_push_size, vp_cell_q, hcA, arrV_new]
  rfl
theorem ax_gets (M : ax_M G p s m args meth c own cc nL) {j idx : Nat} {z : String × String × List Int32} (hz : ax_st[j]? = some z) (hw : Cond.fieldLink own idx z.1 z.2.1 "[I" ∈ ax_G ∨ ∃ host, Cond.fieldLinkNest own idx z.1 z.2.1 "[I" host ∈ lw_tbl) (hd : decode cc pc = .ok (.getstatic idx, 3))
    (kk : ax_W G p l e R s m args below meth c Q nL (pc + 3) lv (.retAddr j :: st) g n cs ss) : ax_W G p l e R s m args below meth c Q nL pc lv st g n cs ss := by
  intro ls H locs hl hR hL
  obtain ⟨hx, hb, -, hown, hts, -, hX⟩ := M
  obtain ⟨cf, kf, fi, f, a, cell, h1, h2, h3, h4, h5, h6, h7, h8⟩ := (hX.2.2.2.1 j z hz).1
  have h5' : H[a]? = some cell := by rw [hR.2.2 a (Nat.not_le.mp h8)]; exact h5
  rcases hw with hw | ⟨host, hw⟩
  · exact W.gets hx hb hown (hts _ hw) h1 h2 h3 h4 h5' (fun e => by rw [e] at h6; cases h6) h7 rfl hd (kk ls H locs hl hR hL)
  · exact va_WgetsN hx hb hown (va_Nw.use rfl (hX.2.1 _ hw rfl)) h1 h2 h3 h4 h5' (fun e => by rw [e] at h6; cases h6) h7 rfl hd (kk ls H locs hl hR hL)
/-- a place of a static array -/
theorem ax_sald (M : ax_M G p s m args meth c own cc nL) {j : Nat} {z : String × String × List Int32} (hz : ax_st[j]? = some z) {i : Int32} (hi : vp_in i z.2.2.length) (hd : decode cc pc = .ok (.iaload, 1))
    (kk : ax_W G p l e R s m args below meth c Q nL (pc + 1) lv (.int (z.2.2.getD i.toNatClampNeg 0) :: st) g n cs ss) : ax_W G p l e R s m args below meth c Q nL pc lv (.int i :: .retAddr j :: st) g n cs ss := by
  intro ls H locs hl hR hL
  obtain ⟨hx, hb, -, hown, hts, -, hX⟩ := M
  obtain ⟨cell, h1, h2, h3, h4, h5, h6, h7⟩ := (hX.2.2.2.1 j z hz).2
  have hlt : i.toNatClampNeg < z.2.2.length := Nat.not_le.mp fun q => hi (Or.inr q)
  have hin' : ¬ (i < 0 ∨ cell.slots.size ≤ i.toNatClampNeg) := by
    intro q
    rcases q with q | q
    · exact hi (Or.inl q)
    · omega
  have h1' : H[G.2.2.2.2.1 j]? = some cell := by rw [hR.2.2 _ (Nat.not_le.mp h7)]; exact h1
  exact W.iald hx hb h1' h2 h3 hin' (h6 _ hlt) rfl rfl hd (kk ls H locs hl hR hL)
/-! calls -/
def ax_Pc (G : ax_T) (as : List Value) (g : Nat → Option ax_C) (n : Nat) : Array Value → State → Prop := fun a U => a = (as.map (ax_v G)).toArray ∧ ax_X G U ∧ ax_R G g n U.heap
def ax_Qc (G : ax_T) (r : Option Value) (g : Nat → Option ax_C) (n : Nat) : Array Value → State → Outcome → State → Prop := fun _ _ o t => o = .returned (r.map (ax_v G)) ∧ ax_R G g n t.heap
def ax_rm (d mc ms : Nat) : Room := { frames := d, cells := mc, slots := ms, locals := 40 * d }
/-- a method's contract over the numbered cells: at these arguments and cells it answers r, and the cells are as told -/
def ax_Met (l : Launch) (G : ax_T) (y : MethodName) (bytes : ByteArray) (maxL : Nat) (ret : Option FieldType) (d : Nat) (as : List Value) (g : Nat → Option ax_C) (n : Nat) (r : Option Value) (g' : Nat → Option ax_C) (n' mc ms : Nat) : Prop :=
  Met l y (Cond.code y bytes maxL ret :: ax_G) (ax_rm d mc ms) (ax_Pc G as g n) (ax_Qc G r g' n') mc ms (fun q => G.2.1 ≤ q)
theorem ax_blind (G : ax_T) (as : List Value) (g : Nat → Option ax_C) (n : Nat) : FrameBlind (ax_Pc G as g n) := fun a U f mk h => ⟨h.1, ax_X.same (s := U) (U := U.calling f mk a) rfl h.2.1, h.2.2⟩
theorem ax_good {w : Cond} (h : w ∈ ax_G) : GoodIn ax_G (w :: ax_G) := by
  intro v hv
  rcases List.mem_cons.mp hv with rfl | hv
  · exact ⟨h, good_of_word (List.mem_filter.mp h).2⟩
  · exact ⟨hv, good_of_word (List.mem_filter.mp hv).2⟩
theorem ax_after {H : Heap} {locs : List Loc} {ls : Array Slot} {st0 rest : List Value} {a : Array Value} {r : Option Value} {n' mc ms : Nat}
    (hr : va_Run p l e R s m args below meth c H locs cs ss mc ms (F0 m pc ls st0) rest (ax_Qc G r g' n' a) (fun q => G.2.1 ≤ q)) (hL : ∀ q ∈ locs, G.2.1 ≤ q.base)
    (kk : ∀ (H1 : Heap) (locs1 : List Loc), ax_R G g' n' H1 → (∀ q ∈ locs1, G.2.1 ≤ q.base) → W p l e R s m args below meth c H1 locs1 (cs + mc) (ss + ms) Q (F0 m (pc + 3) ls ((r.map (ax_v G)).toList ++ rest))) : W p l e R s m args below meth c H locs cs ss Q (F0 m pc ls st0) := by
  intro T hT X
  obtain ⟨v, st₀, t, T', L, h0, X', hL', e1, e2, ⟨ho, hR'⟩, st1⟩ := hr T hT X
  have hv : v = r.map (ax_v G) := Outcome.returned.inj ho
  subst hv
  obtain ⟨t2, a1, b1⟩ := kk T'.heap (locs ++ L) (by rw [e1]; exact hR') (fun q hq => by
    rcases List.mem_append.mp hq with h | h
    · exact hL q h
    · exact hL' q h) T' rfl X'
  exact ⟨t2, st1 t2 a1, b1⟩
def ax_sum (st : List Value) : Nat := (st.map fun v => v.category).sum
theorem ax_sum_map (G : ax_T) (st : List Value) : ((st.map (ax_v G)).map fun v => v.category).sum = ax_sum st := by
  simp only [ax_sum, List.map_map]
  congr 1
  exact List.map_congr_left fun v _ => ax_cat G v
variable {y : MethodName} {bytes : ByteArray} {maxL d idx nA n' mc ms : Nat} {ret : Option FieldType} {as : List Value} {r : Option Value}
/-- what a call needs of the tables, but its link -/
def ax_callee (y : MethodName) (bytes : ByteArray) (maxL : Nat) (ret : Option FieldType) (nA : Nat) : Prop :=
  Cond.code y bytes maxL ret ∈ ax_G ∧ Cond.initialized y.cls ∈ ax_G ∧ (y.cls ≠ "java/lang/invoke/MethodHandle" ∧ y.cls ≠ "java/lang/invoke/VarHandle" ∧ (parseMethodDescriptor y.desc).map (fun d => d.parameters.length) = some nA) ∧ maxL ≤ 21
theorem ax_callS (M : ax_M G p s m args meth c own cc nL) (hM : ax_Met l G y bytes maxL ret d as g n r g' n' mc ms) (hy : ax_callee y bytes maxL ret nA) (hst : Cond.static y ∈ ax_G)
    (hw : Cond.methodLink own idx y ∈ ax_G ∨ ∃ host, Cond.methodLinkNest own idx y host ∈ lw_tbl) (hn : as.length = nA) (hf : d + 1 ≤ R.frames) (hlo : 40 * (d + 1) ≤ R.locals) (hcs : cs + mc ≤ R.cells) (hss : ss + ms ≤ R.slots) (hsum : ax_sum st ≤ 8)
    (hd : decode cc pc = .ok (.invokestatic idx, 3)) (kk : ax_W G p l e R s m args below meth c Q nL (pc + 3) lv (r.toList ++ st) g' n' (cs + mc) (ss + ms)) : ax_W G p l e R s m args below meth c Q nL pc lv (as.reverse ++ st) g n cs ss := by
  intro ls H locs hl hR hL
  obtain ⟨hx, hb, hml, hown, hts, -, hX⟩ := M
  obtain ⟨hcw, hin, hyy, hmx⟩ := hy
  have hp : PreS s H (ax_Pc G as g n) (as.map (ax_v G)) := ⟨ax_blind G as g n, fun U hU hW => ⟨rfl, hX.warm hW, by rw [hU]; exact hR⟩⟩
  have hroom : (ax_rm d mc ms).frames + 1 ≤ R.frames ∧ 8 + (maxL + 11) + (ax_rm d mc ms).locals ≤ R.locals := ⟨hf, by show 8 + (maxL + 11) + 40 * d ≤ R.locals; omega⟩
  have key : ∀ (hr : va_Run p l e R s m args below meth c H locs cs ss mc ms (F0 m pc ls ((as.reverse ++ st).map (ax_v G))) (st.map (ax_v G)) (ax_Qc G r g' n' (as.map (ax_v G)).toArray) (fun q => G.2.1 ≤ q)), W p l e R s m args below meth c H locs cs ss Q (F0 m pc ls ((as.reverse ++ st).map (ax_v G))) := fun hr => ax_after hr hL fun H1 locs1 hR1 hL1 => by
    have h := kk ls H1 locs1 hl hR1 hL1
    cases r <;> exact h
  have hlen : (as.map (ax_v G)).length = nA := by rw [List.length_map]; exact hn
  have hstk : (as.reverse ++ st).map (ax_v G) = (as.map (ax_v G)).reverse ++ st.map (ax_v G) := by rw [List.map_append, List.map_reverse]
  have hW8 : 2 * (F0 m pc ls ((as.reverse ++ st).map (ax_v G))).monitorRoom + ((st.map (ax_v G)).map fun v => v.category).sum ≤ 8 := by
    rw [ax_sum_map]; show 2 * 0 + _ ≤ 8; omega
  rcases hw with hw | ⟨host, hw⟩
  · exact key (va_runS ⟨hx, hb, hml, hown, hts⟩ hM ⟨callB_of nA hts (ax_good hcw) rfl rfl rfl (hts _ hin) (hts _ hw) hyy hroom, hts _ hst⟩ hp rfl hlen (hl.1) hstk hW8 hd ⟨hcs, hss⟩)
  · exact key (va_runSN ⟨hx, hb, hml, hown, hts⟩ hM ⟨va_cnB nA hts (ax_good hcw) rfl rfl rfl (hX.2.1 _ hw rfl) (hts _ hin) hyy hroom, hts _ hst, trivial⟩ hp rfl hlen (hl.1) hstk hW8 hd ⟨hcs, hss⟩)
theorem ax_callV (M : ax_M G p s m args meth c own cc nL) {k ci N : Nat} {T : u_T} {fs : List Value} (hk : g k = some (.inr (ci, fs))) (hc : ax_cl[ci]? = some (y.cls, T, N)) (hM : ax_Met l G y bytes maxL ret d (.ref k :: as) g n r g' n' mc ms) (hy : ax_callee y bytes maxL ret nA) (hst : Cond.instanceMethod y ∈ ax_G) (hse : Cond.selects y.cls y y ∈ ax_G)
    (hw : Cond.methodLink own idx y ∈ ax_G ∨ ∃ host, Cond.methodLinkNest own idx y host ∈ lw_tbl) (hn : as.length = nA) (hf : d + 1 ≤ R.frames) (hlo : 40 * (d + 1) ≤ R.locals) (hcs : cs + mc ≤ R.cells) (hss : ss + ms ≤ R.slots) (hsum : ax_sum st ≤ 8)
    (hd : decode cc pc = .ok (.invokevirtual idx, 3)) (kk : ax_W G p l e R s m args below meth c Q nL (pc + 3) lv (r.toList ++ st) g' n' (cs + mc) (ss + ms)) : ax_W G p l e R s m args below meth c Q nL pc lv (as.reverse ++ .ref k :: st) g n cs ss := by
  intro ls H locs hl hR hL
  obtain ⟨hx, hb, hml, hown, hts, -, hX⟩ := M
  obtain ⟨hcw, hin, hyy, hmx⟩ := hy
  have hrecv := va_recv hX.1 (ax_P1 (hR.2.1 k _ hk)) (ci := ci) (q0 := 0) hc rfl
  have hp : PreV s H y.cls (G.2.1 + k) (ax_Pc G (.ref k :: as) g n) (as.map (ax_v G)) := ⟨ax_blind G _ g n, hrecv, fun U hU hW => ⟨rfl, hX.warm hW, by rw [hU]; exact hR⟩⟩
  have hroom : (ax_rm d mc ms).frames + 1 ≤ R.frames ∧ 8 + (maxL + 11) + (ax_rm d mc ms).locals ≤ R.locals := ⟨hf, by show 8 + (maxL + 11) + 40 * d ≤ R.locals; omega⟩
  have key : ∀ (hr : va_Run p l e R s m args below meth c H locs cs ss mc ms (F0 m pc ls ((as.reverse ++ .ref k :: st).map (ax_v G))) (st.map (ax_v G)) (ax_Qc G r g' n' (Value.ref (G.2.1 + k) :: as.map (ax_v G)).toArray) (fun q => G.2.1 ≤ q)), W p l e R s m args below meth c H locs cs ss Q (F0 m pc ls ((as.reverse ++ .ref k :: st).map (ax_v G))) := fun hr => ax_after hr hL fun H1 locs1 hR1 hL1 => by
    have h := kk ls H1 locs1 hl hR1 hL1
    cases r <;> exact h
  have hlen : (as.map (ax_v G)).length = nA := by rw [List.length_map]; exact hn
  have hstk : (as.reverse ++ .ref k :: st).map (ax_v G) = (as.map (ax_v G)).reverse ++ .ref (G.2.1 + k) :: st.map (ax_v G) := by rw [List.map_append, List.map_reverse]; rfl
  have hW8 : 2 * (F0 m pc ls ((as.reverse ++ .ref k :: st).map (ax_v G))).monitorRoom + ((st.map (ax_v G)).map fun v => v.category).sum ≤ 8 := by
    rw [ax_sum_map]; show 2 * 0 + _ ≤ 8; omega
  rcases hw with hw | ⟨host, hw⟩
  · exact key (va_runV ⟨hx, hb, hml, hown, hts⟩ hM ⟨callB_of nA hts (ax_good hcw) rfl rfl rfl (hts _ hin) (hts _ hw) hyy hroom, hts _ hst, hts _ hse⟩ hp rfl hlen (hl.1) hstk hW8 hd ⟨hcs, hss⟩)
  · exact key (va_runVN ⟨hx, hb, hml, hown, hts⟩ hM ⟨va_cnB nA hts (ax_good hcw) rfl rfl rfl (hX.2.1 _ hw rfl) (hts _ hin) hyy hroom, hts _ hst, hts _ hse⟩ hp rfl hlen (hl.1) hstk hW8 hd ⟨hcs, hss⟩)
theorem ax_callI (M : ax_M G p s m args meth c own cc nL) {k : Nat} (hM : ax_Met l G y bytes maxL none d (.ref k :: as) g n none g' n' mc ms) (hy : ax_callee y bytes maxL none nA) (hst : Cond.instanceMethod y ∈ ax_G) (hy1 : y.name = "<init>")
    (hw : Cond.methodLink own idx y ∈ ax_G ∨ ∃ host, Cond.methodLinkNest own idx y host ∈ lw_tbl) (hn : as.length = nA) (hf : d + 1 ≤ R.frames) (hlo : 40 * (d + 1) ≤ R.locals) (hcs : cs + mc ≤ R.cells) (hss : ss + ms ≤ R.slots) (hsum : ax_sum st ≤ 8)
    (hd : decode cc pc = .ok (.invokespecial idx, 3)) (kk : ax_W G p l e R s m args below meth c Q nL (pc + 3) lv st g' n' (cs + mc) (ss + ms)) : ax_W G p l e R s m args below meth c Q nL pc lv (as.reverse ++ .ref k :: st) g n cs ss := by
  intro ls H locs hl hR hL
  obtain ⟨hx, hb, hml, hown, hts, -, hX⟩ := M
  obtain ⟨hcw, hin, hyy, hmx⟩ := hy
  have hp : PreS s H (ax_Pc G (.ref k :: as) g n) (.ref (G.2.1 + k) :: as.map (ax_v G)) := ⟨ax_blind G _ g n, fun U hU hW => ⟨rfl, hX.warm hW, by rw [hU]; exact hR⟩⟩
  have hroom : (ax_rm d mc ms).frames + 1 ≤ R.frames ∧ 8 + (maxL + 11) + (ax_rm d mc ms).locals ≤ R.locals := ⟨hf, by show 8 + (maxL + 11) + 40 * d ≤ R.locals; omega⟩
  have key : ∀ (hr : va_Run p l e R s m args below meth c H locs cs ss mc ms (F0 m pc ls ((as.reverse ++ .ref k :: st).map (ax_v G))) (st.map (ax_v G)) (ax_Qc G none g' n' (Value.ref (G.2.1 + k) :: as.map (ax_v G)).toArray) (fun q => G.2.1 ≤ q)), W p l e R s m args below meth c H locs cs ss Q (F0 m pc ls ((as.reverse ++ .ref k :: st).map (ax_v G))) := fun hr => ax_after hr hL fun H1 locs1 hR1 hL1 => kk ls H1 locs1 hl hR1 hL1
  have hlen : (as.map (ax_v G)).length = nA := by rw [List.length_map]; exact hn
  have hstk : (as.reverse ++ .ref k :: st).map (ax_v G) = (as.map (ax_v G)).reverse ++ .ref (G.2.1 + k) :: st.map (ax_v G) := by rw [List.map_append, List.map_reverse]; rfl
  have hW8 : 2 * (F0 m pc ls ((as.reverse ++ .ref k :: st).map (ax_v G))).monitorRoom + ((st.map (ax_v G)).map fun v => v.category).sum ≤ 8 := by
    rw [ax_sum_map]; show 2 * 0 + _ ≤ 8; omega
  rcases hw with hw | ⟨host, hw⟩
  · exact key (va_runI ⟨hx, hb, hml, hown, hts⟩ hM ⟨callB_of nA hts (ax_good hcw) rfl rfl rfl (hts _ hin) (hts _ hw) hyy hroom, hy1, hts _ hst⟩ hp rfl hlen (hl.1) hstk hW8 hd ⟨hcs, hss⟩)
  · exact key (va_runIN ⟨hx, hb, hml, hown, hts⟩ hM ⟨va_cnB nA hts (ax_good hcw) rfl rfl rfl (hX.2.1 _ hw rfl) (hts _ hin) hyy hroom, hy1, hts _ hst⟩ hp rfl hlen (hl.1) hstk hW8 hd ⟨hcs, hss⟩)
theorem ax_objInit (M : ax_M G p s m args meth c own cc nL) {k : Nat} (hw : Cond.methodLink own idx objectInit ∈ ax_G) (h1 : Cond.instanceMethod objectInit ∈ ax_G) (h2 : Cond.code objectInit ⟨#[0xb1]⟩ 1 none ∈ ax_G) (hf : 1 ≤ R.frames) (hlo : 20 ≤ R.locals) (hsum : ax_sum st ≤ 8)
    (hd : decode cc pc = .ok (.invokespecial idx, 3)) (kk : ax_W G p l e R s m args below meth c Q nL (pc + 3) lv st g n cs ss) : ax_W G p l e R s m args below meth c Q nL pc lv (.ref k :: st) g n cs ss := by
  intro ls H locs hl hR hL
  obtain ⟨hx, hb, hml, hown, hts, -, hX⟩ := M
  refine W.objInit hx hb hown (hts _ hw) (hts _ h1) (hts _ h2) rfl (by rw [hml]; exact hl.1) rfl hd hf ?_ (kk ls H locs hl hR hL)
  rw [ax_sum_map]; show 2 * 0 + _ + 12 ≤ R.locals; omega
end AXA
end
section
/-! ===== a machine over the numbered cells that a program can run: one step ===== -/
/-- resolved: kind (0 field, 1 nest mate's field, 2 static array, 3 method, 4 nest mate's method, 5 class, 6 int, 7 long, 8 Object's constructor, 9 Math.min, 10 Math.max), two numbers, a constant -/
abbrev ax_PE : Type := Nat × Nat × Nat × Int
/-- pc, instruction, its length, what it names, places of its words in the tables -/
abbrev ax_EN : Type := Nat × Instr × Nat × ax_PE × List Nat
/-- class, name, bytes, locals, answer's type, number of arguments, new cells, new slots, instructions in lists of pc / 32 -/
abbrev ax_MI : Type := String × MethodName × ByteArray × Nat × Option FieldType × Nat × Nat × Nat × List (List ax_EN)
/-- a cell as data: an array's contents as the list of what was stored, the latest first -/
abbrev ax_D : Type := (Nat × Nat × (List (Nat × Int32) ⊕ List (Nat × Option Nat))) ⊕ (Nat × List Value)
def ax_fi : List (Nat × Int32) → Nat → Int32
  | [] => fun _ => 0
  | q :: l => upd (ax_fi l) q.1 q.2
def ax_fr : List (Nat × Option Nat) → Nat → Option Nat
  | [] => fun _ => none
  | q :: l => va_up (ax_fr l) q.1 q.2
def ax_un : ax_D → ax_C
  | .inl (t, n, .inl l) => .inl (t, n, .inl (ax_fi l))
  | .inl (t, n, .inr l) => .inl (t, n, .inr (ax_fr l))
  | .inr o => .inr o
/-- cells in lists of 32 -/
abbrev ax_H : Type := List (List ax_D)
def ax_raw (h : ax_H) (k : Nat) : Option ax_D := (h.getD (k / 32) [])[k % 32]?
def ax_hget (h : ax_H) (k : Nat) : Option ax_C := (ax_raw h k).map ax_un
theorem ax_get_of {h : ax_H} {k : Nat} {d : ax_D} (hk : ax_raw h k = some d) : ax_hget h k = some (ax_un d) := by unfold ax_hget; rw [hk]; rfl
def ax_hset (h : ax_H) (k : Nat) (c : ax_D) : ax_H := h.set (k / 32) ((h.getD (k / 32) []).set (k % 32) c)
def ax_hpush (h : ax_H) (n : Nat) (c : ax_D) : ax_H :=
  bif (h.getD (n / 32) []).length == n % 32 then (bif Nat.blt (n / 32) h.length then h.set (n / 32) (h.getD (n / 32) [] ++ [c]) else bif n / 32 == h.length then h ++ [[c]] else h) else h
theorem ax_dm {j k : Nat} (h1 : j / 32 = k / 32) (h2 : j % 32 = k % 32) : j = k := by omega
theorem ax_raw_set {h : ax_H} {k : Nat} {c : ax_D} : ∀ (j : Nat) (d : ax_D), ax_raw (ax_hset h k c) j = some d → (j = k ∧ d = c) ∨ (j ≠ k ∧ ax_raw h j = some d) := by
  intro j d hd
  unfold ax_raw ax_hset at hd
  unfold ax_raw
  by_cases h1 : j / 32 = k / 32
  · by_cases hl : k / 32 < h.length
    · rw [h1, List.getD_eq_getElem?_getD, List.getElem?_set_self hl] at hd
      simp only [Option.getD_some] at hd
      by_cases h2 : j % 32 = k % 32
      · left
        refine ⟨ax_dm h1 h2, ?_⟩
        rw [h2] at hd
        have hlt : k % 32 < (h.getD (k / 32) []).length := by
          have := (List.getElem?_eq_some_iff.mp hd).1
          simpa using this
        rw [List.getElem?_set_self hlt] at hd
        exact (Option.some.inj hd).symm
      · right
        refine ⟨fun e => h2 (by rw [e]), ?_⟩
        rw [List.getElem?_set_ne (Ne.symm h2)] at hd
        rw [h1]; exact hd
    · rw [List.set_eq_of_length_le (by omega)] at hd
      have : h.getD (j / 32) [] = [] := by rw [List.getD_eq_getElem?_getD, List.getElem?_eq_none (by omega)]; rfl
      rw [this] at hd
      simp at hd
  · right
    refine ⟨fun e => h1 (by rw [e]), ?_⟩
    rw [List.getD_eq_getElem?_getD, List.getElem?_set_ne (Ne.symm h1), ← List.getD_eq_getElem?_getD] at hd
    exact hd
theorem ax_raw_push {h : ax_H} {n : Nat} {c : ax_D} : ∀ (j : Nat) (d : ax_D), ax_raw (ax_hpush h n c) j = some d → (j = n ∧ d = c) ∨ ax_raw h j = some d := by
  intro j d hd
  unfold ax_hpush at hd
  cases e1 : ((h.getD (n / 32) []).length == n % 32) with
  | false => rw [e1] at hd; exact Or.inr hd
  | true =>
    rw [e1] at hd
    simp only [cond_true] at hd
    have e1' : (h.getD (n / 32) []).length = n % 32 := by simpa using e1
    cases e2 : Nat.blt (n / 32) h.length with
    | true =>
      rw [e2] at hd
      simp only [cond_true] at hd
      have e2' : n / 32 < h.length := by simpa [Nat.blt_eq] using e2
      unfold ax_raw at hd ⊢
      by_cases h1 : j / 32 = n / 32
      · rw [h1, List.getD_eq_getElem?_getD, List.getElem?_set_self e2'] at hd
        simp only [Option.getD_some] at hd
        by_cases h2 : j % 32 < (h.getD (n / 32) []).length
        · rw [List.getElem?_append_left h2] at hd
          right; rw [h1]; exact hd
        · rw [List.getElem?_append_right (by omega)] at hd
          have hz : j % 32 - (h.getD (n / 32) []).length < 1 := (List.getElem?_eq_some_iff.mp hd).1
          have hz0 : j % 32 - (h.getD (n / 32) []).length = 0 := by omega
          rw [hz0] at hd
          left
          exact ⟨ax_dm h1 (by omega), (Option.some.inj hd).symm⟩
      · rw [List.getD_eq_getElem?_getD, List.getElem?_set_ne (Ne.symm h1), ← List.getD_eq_getElem?_getD] at hd
        exact Or.inr hd
    | false =>
      rw [e2] at hd
      simp only [cond_false] at hd
      cases e3 : (n / 32 == h.length) with
      | false => rw [e3] at hd; exact Or.inr hd
      | true =>
        rw [e3] at hd
        simp only [cond_true] at hd
        have e3' : n / 32 = h.length := by simpa using e3
        have e4 : n % 32 = 0 := by
          rw [← e1', e3', List.getD_eq_getElem?_getD, List.getElem?_eq_none (Nat.le_refl _)]; rfl
        unfold ax_raw at hd ⊢
        by_cases h1 : j / 32 < h.length
        · rw [List.getD_eq_getElem?_getD, List.getElem?_append_left h1, ← List.getD_eq_getElem?_getD] at hd
          exact Or.inr hd
        · rw [List.getD_eq_getElem?_getD, List.getElem?_append_right (by omega)] at hd
          by_cases h2 : j / 32 = h.length
          · rw [h2, Nat.sub_self] at hd
            simp only [List.getElem?_cons_zero, Option.getD_some] at hd
            have hz : j % 32 < 1 := (List.getElem?_eq_some_iff.mp hd).1
            have hz0 : j % 32 = 0 := by omega
            rw [hz0] at hd
            left
            exact ⟨ax_dm (by omega) (by omega), (Option.some.inj hd).symm⟩
          · rw [List.getElem?_eq_none (show [[c]].length ≤ j / 32 - h.length by show 1 ≤ _; omega)] at hd
            simp at hd
theorem ax_hget_set {h : ax_H} {k : Nat} {c : ax_D} : ∀ (j : Nat) (d : ax_C), ax_hget (ax_hset h k c) j = some d → (j = k ∧ d = ax_un c) ∨ (j ≠ k ∧ ax_hget h j = some d) := by
  intro j d hd
  unfold ax_hget at hd ⊢
  obtain ⟨x, hx, rfl⟩ := Option.map_eq_some_iff.mp hd
  rcases ax_raw_set j x hx with ⟨h1, rfl⟩ | ⟨h1, h2⟩
  · exact Or.inl ⟨h1, rfl⟩
  · exact Or.inr ⟨h1, by rw [h2]; rfl⟩
theorem ax_hget_push {h : ax_H} {n : Nat} {c : ax_D} : ∀ (j : Nat) (d : ax_C), ax_hget (ax_hpush h n c) j = some d → (j = n ∧ d = ax_un c) ∨ ax_hget h j = some d := by
  intro j d hd
  unfold ax_hget at hd ⊢
  obtain ⟨x, hx, rfl⟩ := Option.map_eq_some_iff.mp hd
  rcases ax_raw_push j x hx with ⟨h1, rfl⟩ | h2
  · exact Or.inl ⟨h1, rfl⟩
  · exact Or.inr (by rw [h2]; rfl)
/-- bounds of an int, exact or a symbol -/
def ax_rg (iv : Nat → Int × Int) : Value → Option (Int × Int)
  | .int x => some (x.toInt, x.toInt)
  | .float u => some (iv u.toNat)
  | _ => none
def ax_lt (a b : Int × Int) : Option Bool := bif decide (a.2 < b.1) then some true else bif decide (b.2 ≤ a.1) then some false else none
def ax_eq (a b : Int × Int) : Option Bool := bif decide (a.2 < b.1) || decide (b.2 < a.1) then some false else bif decide (a.1 = a.2) && (decide (b.1 = b.2) && decide (a.1 = b.1)) then some true else none
def ax_cmp (c : ClassFile.Cond) (a b : Int × Int) : Option Bool := match c with
  | .eq => ax_eq a b
  | .ne => (ax_eq a b).map (!·)
  | .lt => ax_lt a b
  | .ge => (ax_lt a b).map (!·)
  | .gt => ax_lt b a
  | .le => (ax_lt b a).map (!·)
def ax_holds (c : ClassFile.Cond) (x y : Int32) : Prop := match c with
  | .eq => x = y
  | .ne => ¬ x = y
  | .lt => x < y
  | .ge => y ≤ x
  | .gt => y < x
  | .le => x ≤ y
theorem ax_lt_ok {a b : Int × Int} {x y : Int32} (hx : a.1 ≤ x.toInt ∧ x.toInt ≤ a.2) (hy : b.1 ≤ y.toInt ∧ y.toInt ≤ b.2) {t : Bool} (h : ax_lt a b = some t) : (x < y ↔ t = true) := by
  unfold ax_lt at h
  rw [Int32.lt_iff_toInt_lt]
  cases e1 : decide (a.2 < b.1) with
  | true =>
    rw [e1] at h
    have := of_decide_eq_true e1
    cases h
    exact ⟨fun _ => rfl, fun _ => by omega⟩
  | false =>
    rw [e1] at h
    simp only [cond_false] at h
    cases e2 : decide (b.2 ≤ a.1) with
    | true =>
      rw [e2] at h
      have := of_decide_eq_true e2
      cases h
      exact ⟨fun _ => by omega, fun h => by cases h⟩
    | false => rw [e2] at h; cases h
theorem ax_eq_ok {a b : Int × Int} {x y : Int32} (hx : a.1 ≤ x.toInt ∧ x.toInt ≤ a.2) (hy : b.1 ≤ y.toInt ∧ y.toInt ≤ b.2) {t : Bool} (h : ax_eq a b = some t) : (x = y ↔ t = true) := by
  unfold ax_eq at h
  cases e1 : decide (a.2 < b.1) || decide (b.2 < a.1) with
  | true =>
    rw [e1] at h
    cases h
    refine ⟨fun e => ?_, fun h => by cases h⟩
    subst e
    simp only [Bool.or_eq_true, decide_eq_true_eq] at e1
    omega
  | false =>
    rw [e1] at h
    simp only [cond_false] at h
    cases e2 : decide (a.1 = a.2) && (decide (b.1 = b.2) && decide (a.1 = b.1)) with
    | true =>
      rw [e2] at h
      cases h
      simp only [Bool.and_eq_true, decide_eq_true_eq] at e2
      exact ⟨fun _ => rfl, fun _ => Int32.toInt_inj.mp (by omega)⟩
    | false => rw [e2] at h; cases h
theorem ax_cmp_ok {c : ClassFile.Cond} {a b : Int × Int} {x y : Int32} (hx : a.1 ≤ x.toInt ∧ x.toInt ≤ a.2) (hy : b.1 ≤ y.toInt ∧ y.toInt ≤ b.2) {t : Bool} (h : ax_cmp c a b = some t) : (ax_holds c x y ↔ t = true) := by
  cases c with
  | eq => exact ax_eq_ok hx hy h
  | ne =>
    simp only [ax_cmp, Option.map_eq_some_iff] at h
    obtain ⟨u, hu, rfl⟩ := h
    have := ax_eq_ok hx hy hu
    simp only [ax_holds, this]
    cases u <;> simp
  | lt => exact ax_lt_ok hx hy h
  | ge =>
    simp only [ax_cmp, Option.map_eq_some_iff] at h
    obtain ⟨u, hu, rfl⟩ := h
    have := ax_lt_ok hx hy hu
    simp only [ax_holds, ← Int32.not_lt, this]
    cases u <;> simp
  | gt => exact ax_lt_ok hy hx h
  | le =>
    simp only [ax_cmp, Option.map_eq_some_iff] at h
    obtain ⟨u, hu, rfl⟩ := h
    have := ax_lt_ok hy hx hu
    simp only [ax_holds, ← Int32.not_lt, this]
    cases u <;> simp
def ax_fit (ty : FieldType) : Value → Bool
  | .int x => decide (narrow ty (.int x) = .int x) && fits ty (.int x)
  | .long x => fits ty (.long x)
  | .ref _ => fits ty .null
  | .retAddr _ => fits ty .null
  | .null => fits ty .null
  | .float _ => decide (ty = .int)
  | .double _ => false
theorem ax_fit_ok (G : ax_T) {ty : FieldType} {v : Value} (h : ax_fit ty v = true) : narrow ty (ax_v G v) = ax_v G v ∧ fits ty (ax_v G v) = true := by
  cases v with
  | int x => simp only [ax_fit, Bool.and_eq_true, decide_eq_true_eq] at h; exact h
  | long x => refine ⟨by cases ty <;> rfl, h⟩
  | ref k => refine ⟨by cases ty <;> rfl, ?_⟩; cases ty <;> first | rfl | (cases h)
  | retAddr k => refine ⟨by cases ty <;> rfl, ?_⟩; cases ty <;> first | rfl | (cases h)
  | null => refine ⟨by cases ty <;> rfl, h⟩
  | float u => have := of_decide_eq_true h; subst this; exact ⟨rfl, rfl⟩
  | double u => cases h
def ax_look (lv : List (Nat × Value)) (k : Nat) : Option Value := (lv.find? fun q => q.1 == k).map (·.2)
theorem ax_look_ok {G : ax_T} {ls : Array Slot} {nL : Nat} {lv : List (Nat × Value)} (hl : lv_has ls nL (lv.map fun q => (q.1, ax_v G q.2))) {k : Nat} {v : Value} (h : ax_look lv k = some v) : ls[k]? = some (.val (ax_v G v)) := by
  unfold ax_look at h
  cases e : lv.find? (fun q => q.1 == k) with
  | none => rw [e] at h; cases h
  | some q =>
    rw [e] at h
    have h1 : q.2 = v := Option.some.inj h
    have h2 : q.1 = k := by simpa using List.find?_some e
    have := hl.2.2 (q.1, ax_v G q.2) (List.mem_map.mpr ⟨q, List.mem_of_find?_eq_some e, rfl⟩)
    rw [← h1, ← h2]; exact this
def ax_put1 (lv : List (Nat × Value)) (i : Nat) (v : Value) : List (Nat × Value) := (i, v) :: lv.filter (fun q => !(q.1 == i) && !(q.1 + 1 == i && q.2.category == 2))
def ax_put2 (lv : List (Nat × Value)) (i : Nat) (v : Value) : List (Nat × Value) := (i, v) :: lv.filter (fun q => !(q.1 == i) && (!(q.1 == i + 1) && !(q.1 + 1 == i && q.2.category == 2)))
theorem ax_put1_map (G : ax_T) (lv : List (Nat × Value)) (i : Nat) (v : Value) : (i, ax_v G v) :: (lv.map fun q => (q.1, ax_v G q.2)).filter (fun q => !(q.1 == i) && !(q.1 + 1 == i && q.2.category == 2)) = (ax_put1 lv i v).map fun q => (q.1, ax_v G q.2) := by
  unfold ax_put1
  rw [List.map_cons, List.filter_map]
  congr 2
  apply List.filter_congr
  intro q _
  simp [ax_cat]
theorem ax_put2_map (G : ax_T) (lv : List (Nat × Value)) (i : Nat) (v : Value) : (i, ax_v G v) :: (lv.map fun q => (q.1, ax_v G q.2)).filter (fun q => !(q.1 == i) && (!(q.1 == i + 1) && !(q.1 + 1 == i && q.2.category == 2))) = (ax_put2 lv i v).map fun q => (q.1, ax_v G q.2) := by
  unfold ax_put2
  rw [List.map_cons, List.filter_map]
  congr 2
  apply List.filter_congr
  intro q _
  simp [ax_cat]
/-- pc, locals, stack, cells, how many, new cells and slots so far -/
abbrev ax_F : Type := Nat × List (Nat × Value) × List Value × ax_H × Nat × Nat × Nat
def ax_to (pc : Nat) (off : Int) : Option Nat := bif decide (0 ≤ (pc : Int) + off) then some ((pc : Int) + off).toNat else none
theorem ax_to_ok {pc t : Nat} {off : Int} (h : ax_to pc off = some t) : (pc : Int) + off = (t : Int) := by
  unfold ax_to at h
  cases e : decide (0 ≤ (pc : Int) + off) with
  | false => rw [e] at h; cases h
  | true =>
    rw [e] at h
    have := of_decide_eq_true e
    cases h
    omega
def ax_inB (i : Int32) (N : Nat) : Bool := decide (0 ≤ i.toInt) && decide (i.toInt < N)
theorem ax_inB_ok {i : Int32} {N : Nat} (h : ax_inB i N = true) : vp_in i N := by
  simp only [ax_inB, Bool.and_eq_true, decide_eq_true_eq] at h
  exact vp_in_iff.mpr h
/-- class of the objects that an array of references holds, by the number of the array's type -/
def ax_tc : Nat → Option (Nat × String)
  | 2 => some (5, "LetterSums$Row")
  | 3 => some (1, "LetterSums$Custom")
  | 4 => some (3, "LetterSums$Mason")
  | _ => none
theorem ax_tc_ok {t ci : Nat} {C : String} (h : ax_tc t = some (ci, C)) : ax_tn[t]? = some (.object C) ∧ ∃ T N, ax_cl[ci]? = some (C, T, N) := by
  match t, h with
  | 2, h => cases h; exact ⟨rfl, _, _, rfl⟩
  | 3, h => cases h; exact ⟨rfl, _, _, rfl⟩
  | 4, h => cases h; exact ⟨rfl, _, _, rfl⟩
  | 0, h => cases h
  | 1, h => cases h
  | n + 5, h => cases h
section STEP
variable (iv : Nat → Int × Int) (nL : Nat) (pe : ax_PE) (pc : Nat) (lv : List (Nat × Value)) (st : List Value) (h : ax_H) (n cs ss : Nat)
def ax_s_push (len : Nat) (v : Value) : Option ax_F := some (pc + len, lv, v :: st, h, n, cs, ss)
def ax_s_ld (len k : Nat) (kind : Nat) : Option ax_F := match ax_look lv k with
  | some (.int x) => bif kind == 0 then some (pc + len, lv, .int x :: st, h, n, cs, ss) else none
  | some (.float x) => bif kind == 0 then some (pc + len, lv, .float x :: st, h, n, cs, ss) else none
  | some (.ref x) => bif kind == 1 then some (pc + len, lv, .ref x :: st, h, n, cs, ss) else none
  | some (.retAddr x) => bif kind == 1 then some (pc + len, lv, .retAddr x :: st, h, n, cs, ss) else none
  | some (.long x) => bif kind == 2 then some (pc + len, lv, .long x :: st, h, n, cs, ss) else none
  | _ => none
def ax_s_st (len k : Nat) (kind : Nat) : Option ax_F := match st with
  | .int x :: st => bif kind == 0 && Nat.blt k nL then some (pc + len, ax_put1 lv k (.int x), st, h, n, cs, ss) else none
  | .float x :: st => bif kind == 0 && Nat.blt k nL then some (pc + len, ax_put1 lv k (.float x), st, h, n, cs, ss) else none
  | .ref x :: st => bif kind == 1 && Nat.blt k nL then some (pc + len, ax_put1 lv k (.ref x), st, h, n, cs, ss) else none
  | .retAddr x :: st => bif kind == 1 && Nat.blt k nL then some (pc + len, ax_put1 lv k (.retAddr x), st, h, n, cs, ss) else none
  | .long x :: st => bif kind == 2 && Nat.blt (k + 1) nL then some (pc + len, ax_put2 lv k (.long x), st, h, n, cs, ss) else none
  | _ => none
def ax_s_i2 (op : Int32 → Int32 → Int32) : Option ax_F := match st with
  | .int y :: .int x :: st => some (pc + 1, lv, .int (op x y) :: st, h, n, cs, ss)
  | _ => none
def ax_s_l2 (op : Int64 → Int64 → Int64) : Option ax_F := match st with
  | .long y :: .long x :: st => some (pc + 1, lv, .long (op x y) :: st, h, n, cs, ss)
  | _ => none
def ax_s_div (op : Int32 → Int32 → Int32) : Option ax_F := match st with
  | .int y :: .int x :: st => bif decide (y = 0) then none else some (pc + 1, lv, .int (op x y) :: st, h, n, cs, ss)
  | _ => none
def ax_s_br (c : ClassFile.Cond) (off : Int) (a b : Value) (st : List Value) : Option ax_F := match ax_to pc off with
  | none => none
  | some tg => match ax_rg iv a, ax_rg iv b with
    | some ra, some rb => match ax_cmp c ra rb with
      | some true => some (tg, lv, st, h, n, cs, ss)
      | some false => some (pc + 3, lv, st, h, n, cs, ss)
      | none => none
    | _, _ => none
def ax_s_getf : Option ax_F := match st with
  | .ref k :: st => match ax_raw h k with
    | some (.inr (ci, fs)) => bif ci == pe.2.1 then (fs[pe.2.2.1]?).map fun v => (pc + 3, lv, v :: st, h, n, cs, ss) else none
    | _ => none
  | _ => none
def ax_s_putf : Option ax_F := match st with
  | v :: .ref k :: st => match ax_raw h k with
    | some (.inr (ci, fs)) => bif ci == pe.2.1 && (Nat.blt pe.2.2.1 fs.length && ax_fit (ax_ty pe.2.1 pe.2.2.1) v) then some (pc + 3, lv, st, ax_hset h k (.inr (ci, fs.set pe.2.2.1 v)), n, cs, ss) else none
    | _ => none
  | _ => none
def ax_s_iald : Option ax_F := match st with
  | .int i :: .ref k :: st => match ax_raw h k with
    | some (.inl (t, N, .inl f)) => bif t == 0 && ax_inB i N then some (pc + 1, lv, .int (ax_fi f i.toNatClampNeg) :: st, h, n, cs, ss) else none
    | _ => none
  | .int i :: .retAddr j :: st => match ax_st[j]? with
    | some z => bif ax_inB i z.2.2.length then some (pc + 1, lv, .int (z.2.2.getD i.toNatClampNeg 0) :: st, h, n, cs, ss) else none
    | none => none
  | _ => none
def ax_s_bald : Option ax_F := match st with
  | .int i :: .ref k :: st => match ax_raw h k with
    | some (.inl (t, N, .inl f)) => bif t == 1 && ax_inB i N then some (pc + 1, lv, .int (ax_fi f i.toNatClampNeg) :: st, h, n, cs, ss) else none
    | _ => none
  | _ => none
def ax_s_aald : Option ax_F := match st with
  | .int i :: .ref k :: st => match ax_raw h k with
    | some (.inl (t, N, .inr f)) => match ax_tc t with
      | some _ => bif ax_inB i N then (ax_fr f i.toNatClampNeg).map fun k' => (pc + 1, lv, .ref k' :: st, h, n, cs, ss) else none
      | none => none
    | _ => none
  | _ => none
def ax_s_iast : Option ax_F := match st with
  | .int x :: .int i :: .ref k :: st => match ax_raw h k with
    | some (.inl (t, N, .inl f)) => bif t == 0 && ax_inB i N then some (pc + 1, lv, st, ax_hset h k (.inl (t, N, .inl ((i.toNatClampNeg, x) :: f))), n, cs, ss) else none
    | _ => none
  | _ => none
def ax_s_bast : Option ax_F := match st with
  | .int x :: .int i :: .ref k :: st => match ax_raw h k with
    | some (.inl (t, N, .inl f)) => bif t == 1 && (ax_inB i N && decide (vp_nar .byte x = x)) then some (pc + 1, lv, st, ax_hset h k (.inl (t, N, .inl ((i.toNatClampNeg, x) :: f))), n, cs, ss) else none
    | _ => none
  | _ => none
def ax_s_alen : Option ax_F := match st with
  | .ref k :: st => match ax_raw h k with
    | some (.inl (t, N, .inl _)) => bif Nat.blt t 2 then some (pc + 1, lv, .int (Int32.ofNat N) :: st, h, n, cs, ss) else none
    | _ => none
  | _ => none
def ax_s_li (op : Int64 → Int32 → Int64) : Option ax_F := match st with
  | .int y :: .long x :: st => some (pc + 1, lv, .long (op x y) :: st, h, n, cs, ss)
  | _ => none
def ax_s_aast : Option ax_F := match st with
  | .ref k' :: .int i :: .ref k :: st => match ax_raw h k, ax_raw h k' with
    | some (.inl (t, N, .inr f)), some (.inr (ci, _)) => match ax_tc t with
      | some q => bif ci == q.1 && ax_inB i N then some (pc + 1, lv, st, ax_hset h k (.inl (t, N, .inr ((i.toNatClampNeg, some k') :: f))), n, cs, ss) else none
      | none => none
    | _, _ => none
  | _ => none
def ax_s_newa : Option ax_F := match st with
  | .int i :: st => bif decide (0 ≤ i.toInt) && decide (i.toNatClampNeg * 8 ≤ 536870912) then some (pc + 2, lv, .ref n :: st, ax_hpush h n (.inl (pe.2.1, i.toNatClampNeg, .inl [])), n + 1, cs + 1, ss + i.toNatClampNeg) else none
  | _ => none
def ax_s_newq : Option ax_F := match st with
  | .int i :: st => bif decide (0 ≤ i.toInt) && decide (i.toNatClampNeg * 4 ≤ 536870912) then some (pc + 3, lv, .ref n :: st, ax_hpush h n (.inl (pe.2.1, i.toNatClampNeg, .inr [])), n + 1, cs + 1, ss + i.toNatClampNeg) else none
  | _ => none
def ax_s_table (d lo hi : Int) (offs : Array Int) : Option ax_F := match st with
  | .int x :: st => bif decide (x.toInt < lo) || decide (hi < x.toInt) then (ax_to pc d).map fun t => (t, lv, st, h, n, cs, ss)
      else match offs[(x.toInt - lo).toNat]? with
        | some off => (ax_to pc off).map fun t => (t, lv, st, h, n, cs, ss)
        | none => none
  | .float u :: st => bif decide ((iv u.toNat).2 < lo) || decide (hi < (iv u.toNat).1) then (ax_to pc d).map fun t => (t, lv, st, h, n, cs, ss) else none
  | _ => none
def ax_s_lookup (d : Int) (ps : Array (Int × Int)) : Option ax_F := bif (ps.toList.zip (ps.toList.drop 1)).all (fun (a, next) => a.1 < next.1) then (match st with
  | .int x :: st => (ax_to pc (Op.lookupswitch.offset ps.toList d x.toInt)).map fun t => (t, lv, st, h, n, cs, ss)
  | .float u :: st => bif ps.toList.all (fun q => decide ((iv u.toNat).2 < q.1) || decide (q.1 < (iv u.toNat).1)) then (ax_to pc d).map fun t => (t, lv, st, h, n, cs, ss) else none
  | _ => none) else none
end STEP
/-- one step, but calls and returns -/
def ax_step (iv : Nat → Int × Int) (nL : Nat) (i : Instr) (pe : ax_PE) (pc : Nat) (lv : List (Nat × Value)) (st : List Value) (h : ax_H) (n cs ss : Nat) : Option ax_F := match i with
  | .iconst k => ax_s_push pc lv st h n cs ss 1 (.int (Int32.ofInt k))
  | .bipush k => ax_s_push pc lv st h n cs ss 2 (.int (Int8.ofInt k).toInt32)
  | .sipush k => ax_s_push pc lv st h n cs ss 3 (.int (Int16.ofInt k).toInt32)
  | .lconst k => ax_s_push pc lv st h n cs ss 1 (.long (Int64.ofNat (k : Nat)))
  | .ldc _ => ax_s_push pc lv st h n cs ss 2 (.int (Int32.ofInt pe.2.2.2))
  | .ldc_w _ => ax_s_push pc lv st h n cs ss 3 (.int (Int32.ofInt pe.2.2.2))
  | .ldc2_w _ => ax_s_push pc lv st h n cs ss 3 (.long (Int64.ofInt pe.2.2.2))
  | .iload k => ax_s_ld pc lv st h n cs ss 2 k 0
  | .iload_n k => ax_s_ld pc lv st h n cs ss 1 k 0
  | .aload k => ax_s_ld pc lv st h n cs ss 2 k 1
  | .aload_n k => ax_s_ld pc lv st h n cs ss 1 k 1
  | .lload k => ax_s_ld pc lv st h n cs ss 2 k 2
  | .lload_n k => ax_s_ld pc lv st h n cs ss 1 k 2
  | .istore k => ax_s_st nL pc lv st h n cs ss 2 k 0
  | .istore_n k => ax_s_st nL pc lv st h n cs ss 1 k 0
  | .astore k => ax_s_st nL pc lv st h n cs ss 2 k 1
  | .astore_n k => ax_s_st nL pc lv st h n cs ss 1 k 1
  | .lstore k => ax_s_st nL pc lv st h n cs ss 2 k 2
  | .lstore_n k => ax_s_st nL pc lv st h n cs ss 1 k 2
  | .iinc k x => match ax_look lv k with
    | some (.int v) => bif Nat.blt k nL then some (pc + 3, ax_put1 lv k (.int (v + Int32.ofInt x)), st, h, n, cs, ss) else none
    | _ => none
  | .iadd => ax_s_i2 pc lv st h n cs ss (fun x y => x + y)
  | .isub => ax_s_i2 pc lv st h n cs ss (fun x y => x - y)
  | .imul => ax_s_i2 pc lv st h n cs ss (fun x y => x * y)
  | .iand => ax_s_i2 pc lv st h n cs ss (fun x y => x &&& y)
  | .ior => ax_s_i2 pc lv st h n cs ss (fun x y => x ||| y)
  | .ishl => ax_s_i2 pc lv st h n cs ss (fun x y => x <<< (y &&& 31))
  | .ishr => ax_s_i2 pc lv st h n cs ss (fun x y => x >>> (y &&& 31))
  | .idiv => ax_s_div pc lv st h n cs ss (fun x y => x / y)
  | .irem => ax_s_div pc lv st h n cs ss (fun x y => x - x / y * y)
  | .ineg => match st with
    | .int x :: st => some (pc + 1, lv, .int (-x) :: st, h, n, cs, ss)
    | _ => none
  | .ladd => ax_s_l2 pc lv st h n cs ss (fun x y => x + y)
  | .lmul => ax_s_l2 pc lv st h n cs ss (fun x y => x * y)
  | .land => ax_s_l2 pc lv st h n cs ss (fun x y => x &&& y)
  | .lshr => ax_s_li pc lv st h n cs ss (fun x y => x >>> (y.toInt64 &&& 63))
  | .lushr => ax_s_li pc lv st h n cs ss (fun x y => (x.toUInt64 >>> (y.toInt64.toUInt64 &&& Int64.toUInt64 63)).toInt64)
  | .iushr => ax_s_i2 pc lv st h n cs ss (fun x y => (x.toUInt32 >>> (y.toUInt32 &&& Int32.toUInt32 31)).toInt32)
  | .l2i => match st with
    | .long x :: st => some (pc + 1, lv, .int x.toInt32 :: st, h, n, cs, ss)
    | _ => none
  | .i2b => match st with
    | .int x :: st => some (pc + 1, lv, .int x.toInt8.toInt32 :: st, h, n, cs, ss)
    | _ => none
  | .i2c => match st with
    | .int x :: st => some (pc + 1, lv, .int (x.toUInt32 % 65536).toInt32 :: st, h, n, cs, ss)
    | _ => none
  | .bastore => ax_s_bast pc lv st h n cs ss
  | .arraylength => ax_s_alen pc lv st h n cs ss
  | .i2l => match st with
    | .int x :: st => some (pc + 1, lv, .long x.toInt64 :: st, h, n, cs, ss)
    | _ => none
  | .dup => match st with
    | v :: st => bif v.category == 1 then some (pc + 1, lv, v :: v :: st, h, n, cs, ss) else none
    | _ => none
  | .dup2 => match st with
    | v :: w :: st => bif v.category == 1 && w.category == 1 then some (pc + 1, lv, v :: w :: v :: w :: st, h, n, cs, ss) else none
    | _ => none
  | .pop => match st with
    | v :: st => bif v.category == 1 then some (pc + 1, lv, st, h, n, cs, ss) else none
    | _ => none
  | .goto off => (ax_to pc off).map fun t => (t, lv, st, h, n, cs, ss)
  | .ifCond c off => match st with
    | a :: st => ax_s_br iv pc lv h n cs ss c off a (.int 0) st
    | _ => none
  | .if_icmp c off => match st with
    | b :: a :: st => ax_s_br iv pc lv h n cs ss c off a b st
    | _ => none
  | .getfield _ => ax_s_getf pe pc lv st h n cs ss
  | .putfield _ => ax_s_putf pe pc lv st h n cs ss
  | .getstatic _ => ax_s_push pc lv st h n cs ss 3 (.retAddr pe.2.1)
  | .iaload => ax_s_iald pc lv st h n cs ss
  | .baload => ax_s_bald pc lv st h n cs ss
  | .aaload => ax_s_aald pc lv st h n cs ss
  | .iastore => ax_s_iast pc lv st h n cs ss
  | .aastore => ax_s_aast pc lv st h n cs ss
  | .new _ => some (pc + 3, lv, .ref n :: st, ax_hpush h n (.inr (pe.2.1, ax_born pe.2.1 pe.2.2.1)), n + 1, cs + 1, ss + pe.2.2.1)
  | .newarray _ => ax_s_newa pe pc lv st h n cs ss
  | .anewarray _ => ax_s_newq pe pc lv st h n cs ss
  | .tableswitch d lo hi offs => ax_s_table iv pc lv st h n cs ss d lo hi offs
  | .lookupswitch d ps => ax_s_lookup iv pc lv st h n cs ss d ps
  | .invokespecial _ => match st with
    | .ref _ :: st => bif pe.1 == 8 && Nat.ble (ax_sum st) 8 then some (pc + 3, lv, st, h, n, cs, ss) else none
    | _ => none
  | .invokestatic _ => match st with
    | .int y :: .int x :: st => bif pe.1 == 9 && Nat.ble (ax_sum st) 8 then some (pc + 3, lv, .int (if y < x then y else x) :: st, h, n, cs, ss) else none
    | _ => none
  | _ => none
end
section
/-! ===== one step is the machine's ===== -/
def ax_len : Instr → Nat
  | .bipush _ => 2
  | .sipush _ => 3
  | .ldc _ => 2
  | .ldc_w _ => 3
  | .ldc2_w _ => 3
  | .iload _ => 2
  | .aload _ => 2
  | .lload _ => 2
  | .istore _ => 2
  | .astore _ => 2
  | .lstore _ => 2
  | .iinc _ _ => 3
  | .goto _ => 3
  | .ifCond _ _ => 3
  | .if_icmp _ _ => 3
  | .getfield _ => 3
  | .putfield _ => 3
  | .getstatic _ => 3
  | .new _ => 3
  | .newarray _ => 2
  | .anewarray _ => 3
  | .invokespecial _ => 3
  | .invokestatic _ => 3
  | .invokevirtual _ => 3
  | .tableswitch _ _ _ _ => 0
  | .lookupswitch _ _ => 0
  | _ => 1
def ax_OkW (prog : List ax_MI) (own nm : String) (i : Instr) (pe : ax_PE) : Prop := match i with
  | .getfield idx => ∃ C T N, ax_cl[pe.2.1]? = some (C, T, N) ∧ pe.2.2.1 < N ∧ (Cond.fieldLink own idx (T pe.2.2.1).1 (T pe.2.2.1).2.1 (T pe.2.2.1).2.2.1 ∈ ax_G ∨ ∃ host, Cond.fieldLinkNest own idx (T pe.2.2.1).1 (T pe.2.2.1).2.1 (T pe.2.2.1).2.2.1 host ∈ lw_tbl)
  | .putfield idx => ∃ C T N, ax_cl[pe.2.1]? = some (C, T, N) ∧ pe.2.2.1 < N ∧ (((T pe.2.2.1).2.2.2 = false ∧ (Cond.fieldLink own idx (T pe.2.2.1).1 (T pe.2.2.1).2.1 (T pe.2.2.1).2.2.1 ∈ ax_G ∨ ∃ host, Cond.fieldLinkNest own idx (T pe.2.2.1).1 (T pe.2.2.1).2.1 (T pe.2.2.1).2.2.1 host ∈ lw_tbl)) ∨
      ((T pe.2.2.1).2.2.2 = true ∧ Cond.fieldLink own idx (T pe.2.2.1).1 (T pe.2.2.1).2.1 (T pe.2.2.1).2.2.1 ∈ ax_G ∧ nm = "<init>" ∧ (T pe.2.2.1).1 = own))
  | .getstatic idx => ∃ z, ax_st[pe.2.1]? = some z ∧ (Cond.fieldLink own idx z.1 z.2.1 "[I" ∈ ax_G ∨ ∃ host, Cond.fieldLinkNest own idx z.1 z.2.1 "[I" host ∈ lw_tbl)
  | .new idx => ∃ C T, ax_cl[pe.2.1]? = some (C, T, pe.2.2.1) ∧ Cond.classLink own idx C ∈ ax_G ∧ Cond.instantiable C pe.2.2.1 ∈ ax_G ∧ Cond.initialized C ∈ ax_G ∧ ax_nofl pe.2.1 pe.2.2.1 = true
  | .newarray a => Cond.arrayClass (newarray.typeOf a) ∈ ax_G ∧ ax_tn[pe.2.1]? = some (newarray.typeOf a) ∧ (a = .int ∨ a = .byte)
  | .anewarray idx => ∃ C, Cond.classLink own idx C ∈ ax_G ∧ ax_tn[pe.2.1]? = some (.object C) ∧ (C = "LetterSums$Row" ∨ C = "LetterSums$Custom" ∨ C = "LetterSums$Mason")
  | .ldc idx => Cond.constant own idx (Int32.ofInt pe.2.2.2) ∈ ax_G
  | .ldc_w idx => Cond.constant own idx (Int32.ofInt pe.2.2.2) ∈ ax_G
  | .ldc2_w idx => Cond.constantLong own idx (Int64.ofInt pe.2.2.2) ∈ ax_G
  | .invokestatic idx => (pe.1 = 9 ∧ Cond.methodLink own idx Lib.Math.min.name ∈ ax_G ∧ Cond.static Lib.Math.min.name ∈ ax_G ∧ Cond.initialized "java/lang/Math" ∈ ax_G ∧ Cond.code Lib.Math.min.name Lib.Math.min.code 2 (some .int) ∈ ax_G) ∨
      (pe.1 ≠ 9 ∧ ∃ mi : ax_MI, prog[pe.2.1]? = some mi ∧ Cond.static mi.2.1 ∈ ax_G ∧ (Cond.methodLink own idx mi.2.1 ∈ ax_G ∨ ∃ host, Cond.methodLinkNest own idx mi.2.1 host ∈ lw_tbl))
  | .invokevirtual idx => ∃ (mi : ax_MI) (T : u_T) (N : Nat), prog[pe.2.1]? = some mi ∧ ax_cl[pe.2.2.1]? = some (mi.2.1.cls, T, N) ∧ Cond.instanceMethod mi.2.1 ∈ ax_G ∧ Cond.selects mi.2.1.cls mi.2.1 mi.2.1 ∈ ax_G ∧ (Cond.methodLink own idx mi.2.1 ∈ ax_G ∨ ∃ host, Cond.methodLinkNest own idx mi.2.1 host ∈ lw_tbl)
  | .invokespecial idx => (pe.1 = 8 ∧ Cond.methodLink own idx objectInit ∈ ax_G ∧ Cond.instanceMethod objectInit ∈ ax_G ∧ Cond.code objectInit ⟨#[0xb1]⟩ 1 none ∈ ax_G) ∨
      (pe.1 ≠ 8 ∧ ∃ mi : ax_MI, prog[pe.2.1]? = some mi ∧ mi.2.1.name = "<init>" ∧ mi.2.2.2.2.1 = none ∧ Cond.instanceMethod mi.2.1 ∈ ax_G ∧ (Cond.methodLink own idx mi.2.1 ∈ ax_G ∨ ∃ host, Cond.methodLinkNest own idx mi.2.1 host ∈ lw_tbl))
  | _ => True
def ax_Ok (prog : List ax_MI) (own nm : String) (cc : ByteArray) (pc : Nat) (i : Instr) (len : Nat) (pe : ax_PE) : Prop :=
  decode cc pc = .ok (i, len) ∧ (ax_len i = 0 ∨ len = ax_len i) ∧ ax_OkW prog own nm i pe
section AXS
variable {G : ax_T} {p : Program} {l : Launch} {e : Env} {R : Room} {s : State} {m : MethodId} {args : Array Value} {below : List Frame} {meth : Method} {c : Code} {Q : State → Prop} {own nm : String} {cc : ByteArray} {nL : Nat}
variable {pc : Nat} {lv : List (Nat × Value)} {st : List Value} {h : ax_H} {n cs ss : Nat} {iv : Nat → Int × Int} {pe : ax_PE} {F : ax_F}
def ax_WF (G : ax_T) (p : Program) (l : Launch) (e : Env) (R : Room) (s : State) (m : MethodId) (args : Array Value) (below : List Frame) (meth : Method) (c : Code) (Q : State → Prop) (nL : Nat) (F : ax_F) : Prop :=
  ax_W G p l e R s m args below meth c Q nL F.1 F.2.1 F.2.2.1 (ax_hget F.2.2.2.1) F.2.2.2.2.1 F.2.2.2.2.2.1 F.2.2.2.2.2.2
theorem ax_ld_ok {len k kind : Nat}
    (rI : kind = 0 → ∀ (ls : Array Slot) (H : Heap) (locs : List Loc) (x : Int32), ls[k]? = some (.val (.int x)) → W p l e R s m args below meth c H locs cs ss Q (F0 m (pc + len) ls (.int x :: st.map (ax_v G))) → W p l e R s m args below meth c H locs cs ss Q (F0 m pc ls (st.map (ax_v G))))
    (rA : kind = 1 → ∀ (ls : Array Slot) (H : Heap) (locs : List Loc) (x : Nat), ls[k]? = some (.val (.ref x)) → W p l e R s m args below meth c H locs cs ss Q (F0 m (pc + len) ls (.ref x :: st.map (ax_v G))) → W p l e R s m args below meth c H locs cs ss Q (F0 m pc ls (st.map (ax_v G))))
    (rL : kind = 2 → ∀ (ls : Array Slot) (H : Heap) (locs : List Loc) (x : Int64), ls[k]? = some (.val (.long x)) → W p l e R s m args below meth c H locs cs ss Q (F0 m (pc + len) ls (.long x :: st.map (ax_v G))) → W p l e R s m args below meth c H locs cs ss Q (F0 m pc ls (st.map (ax_v G))))
    (hs : ax_s_ld pc lv st h n cs ss len k kind = some F) (kk : ax_WF G p l e R s m args below meth c Q nL F) : ax_W G p l e R s m args below meth c Q nL pc lv st (ax_hget h) n cs ss := by
  intro ls H locs hl hR hL
  unfold ax_s_ld at hs
  cases e0 : ax_look lv k with
  | none => rw [e0] at hs; cases hs
  | some v =>
    rw [e0] at hs
    have h1 := ax_look_ok hl e0
    cases v with
    | int x =>
      cases e1 : kind == 0 with
      | false => simp only [e1, cond_false] at hs; cases hs
      | true =>
        simp only [e1, cond_true] at hs
        obtain rfl := Option.some.inj hs
        exact rI (by simpa using e1) ls H locs x h1 (kk ls H locs hl hR hL)
    | float x =>
      cases e1 : kind == 0 with
      | false => simp only [e1, cond_false] at hs; cases hs
      | true =>
        simp only [e1, cond_true] at hs
        obtain rfl := Option.some.inj hs
        exact rI (by simpa using e1) ls H locs _ h1 (kk ls H locs hl hR hL)
    | ref x =>
      cases e1 : kind == 1 with
      | false => simp only [e1, cond_false] at hs; cases hs
      | true =>
        simp only [e1, cond_true] at hs
        obtain rfl := Option.some.inj hs
        exact rA (by simpa using e1) ls H locs _ h1 (kk ls H locs hl hR hL)
    | retAddr x =>
      cases e1 : kind == 1 with
      | false => simp only [e1, cond_false] at hs; cases hs
      | true =>
        simp only [e1, cond_true] at hs
        obtain rfl := Option.some.inj hs
        exact rA (by simpa using e1) ls H locs _ h1 (kk ls H locs hl hR hL)
    | long x =>
      cases e1 : kind == 2 with
      | false => simp only [e1, cond_false] at hs; cases hs
      | true =>
        simp only [e1, cond_true] at hs
        obtain rfl := Option.some.inj hs
        exact rL (by simpa using e1) ls H locs _ h1 (kk ls H locs hl hR hL)
    | null => cases hs
    | double x => cases hs
theorem ax_st_ok {len k kind : Nat}
    (rI : kind = 0 → ∀ (ls : Array Slot) (H : Heap) (locs : List Loc) (rest : List Value) (x : Int32) (lw lw' : List (Nat × Value)), lv_has ls nL lw → k < nL → (k, Value.int x) :: lw.filter (fun q => !(q.1 == k) && !(q.1 + 1 == k && q.2.category == 2)) = lw' → (∀ ls' : Array Slot, lv_has ls' nL lw' → W p l e R s m args below meth c H locs cs ss Q (F0 m (pc + len) ls' rest)) → W p l e R s m args below meth c H locs cs ss Q (F0 m pc ls (.int x :: rest)))
    (rA : kind = 1 → ∀ (ls : Array Slot) (H : Heap) (locs : List Loc) (rest : List Value) (x : Nat) (lw lw' : List (Nat × Value)), lv_has ls nL lw → k < nL → (k, Value.ref x) :: lw.filter (fun q => !(q.1 == k) && !(q.1 + 1 == k && q.2.category == 2)) = lw' → (∀ ls' : Array Slot, lv_has ls' nL lw' → W p l e R s m args below meth c H locs cs ss Q (F0 m (pc + len) ls' rest)) → W p l e R s m args below meth c H locs cs ss Q (F0 m pc ls (.ref x :: rest)))
    (rL : kind = 2 → ∀ (ls : Array Slot) (H : Heap) (locs : List Loc) (rest : List Value) (x : Int64) (lw lw' : List (Nat × Value)), lv_has ls nL lw → k + 1 < nL → (k, Value.long x) :: lw.filter (fun q => !(q.1 == k) && (!(q.1 == k + 1) && !(q.1 + 1 == k && q.2.category == 2))) = lw' → (∀ ls' : Array Slot, lv_has ls' nL lw' → W p l e R s m args below meth c H locs cs ss Q (F0 m (pc + len) ls' rest)) → W p l e R s m args below meth c H locs cs ss Q (F0 m pc ls (.long x :: rest)))
    (hs : ax_s_st nL pc lv st h n cs ss len k kind = some F) (kk : ax_WF G p l e R s m args below meth c Q nL F) : ax_W G p l e R s m args below meth c Q nL pc lv st (ax_hget h) n cs ss := by
  intro ls H locs hl hR hL
  unfold ax_s_st at hs
  cases st with
  | nil => cases hs
  | cons v st =>
    cases v with
    | int x =>
      cases e1 : kind == 0 && Nat.blt k nL with
      | false => simp only [e1, cond_false] at hs; cases hs
      | true =>
        simp only [e1, cond_true] at hs
        obtain rfl := Option.some.inj hs
        simp only [Bool.and_eq_true, beq_iff_eq, Nat.blt_eq] at e1
        exact rI e1.1 ls H locs _ x _ _ hl e1.2 (ax_put1_map G lv k (.int x)) (fun ls' hl' => kk ls' H locs hl' hR hL)
    | float x =>
      cases e1 : kind == 0 && Nat.blt k nL with
      | false => simp only [e1, cond_false] at hs; cases hs
      | true =>
        simp only [e1, cond_true] at hs
        obtain rfl := Option.some.inj hs
        simp only [Bool.and_eq_true, beq_iff_eq, Nat.blt_eq] at e1
        exact rI e1.1 ls H locs _ _ _ _ hl e1.2 (ax_put1_map G lv k (.float x)) (fun ls' hl' => kk ls' H locs hl' hR hL)
    | ref x =>
      cases e1 : kind == 1 && Nat.blt k nL with
      | false => simp only [e1, cond_false] at hs; cases hs
      | true =>
        simp only [e1, cond_true] at hs
        obtain rfl := Option.some.inj hs
        simp only [Bool.and_eq_true, beq_iff_eq, Nat.blt_eq] at e1
        exact rA e1.1 ls H locs _ _ _ _ hl e1.2 (ax_put1_map G lv k (.ref x)) (fun ls' hl' => kk ls' H locs hl' hR hL)
    | retAddr x =>
      cases e1 : kind == 1 && Nat.blt k nL with
      | false => simp only [e1, cond_false] at hs; cases hs
      | true =>
        simp only [e1, cond_true] at hs
        obtain rfl := Option.some.inj hs
        simp only [Bool.and_eq_true, beq_iff_eq, Nat.blt_eq] at e1
        exact rA e1.1 ls H locs _ _ _ _ hl e1.2 (ax_put1_map G lv k (.retAddr x)) (fun ls' hl' => kk ls' H locs hl' hR hL)
    | long x =>
      cases e1 : kind == 2 && Nat.blt (k + 1) nL with
      | false => simp only [e1, cond_false] at hs; cases hs
      | true =>
        simp only [e1, cond_true] at hs
        obtain rfl := Option.some.inj hs
        simp only [Bool.and_eq_true, beq_iff_eq, Nat.blt_eq] at e1
        exact rL e1.1 ls H locs _ _ _ _ hl e1.2 (ax_put2_map G lv k (.long x)) (fun ls' hl' => kk ls' H locs hl' hR hL)
    | null => cases hs
    | double x => cases hs
theorem ax_i2_ok {op : Int32 → Int32 → Int32}
    (r : ∀ (ls : Array Slot) (H : Heap) (locs : List Loc) (rest : List Value) (x y : Int32), W p l e R s m args below meth c H locs cs ss Q (F0 m (pc + 1) ls (.int (op x y) :: rest)) → W p l e R s m args below meth c H locs cs ss Q (F0 m pc ls (.int y :: .int x :: rest)))
    (hs : ax_s_i2 pc lv st h n cs ss op = some F) (kk : ax_WF G p l e R s m args below meth c Q nL F) : ax_W G p l e R s m args below meth c Q nL pc lv st (ax_hget h) n cs ss := by
  intro ls H locs hl hR hL
  unfold ax_s_i2 at hs
  split at hs
  · obtain rfl := Option.some.inj hs
    exact r ls H locs _ _ _ (kk ls H locs hl hR hL)
  · cases hs
theorem ax_l2_ok {op : Int64 → Int64 → Int64}
    (r : ∀ (ls : Array Slot) (H : Heap) (locs : List Loc) (rest : List Value) (x y : Int64), W p l e R s m args below meth c H locs cs ss Q (F0 m (pc + 1) ls (.long (op x y) :: rest)) → W p l e R s m args below meth c H locs cs ss Q (F0 m pc ls (.long y :: .long x :: rest)))
    (hs : ax_s_l2 pc lv st h n cs ss op = some F) (kk : ax_WF G p l e R s m args below meth c Q nL F) : ax_W G p l e R s m args below meth c Q nL pc lv st (ax_hget h) n cs ss := by
  intro ls H locs hl hR hL
  unfold ax_s_l2 at hs
  split at hs
  · obtain rfl := Option.some.inj hs
    exact r ls H locs _ _ _ (kk ls H locs hl hR hL)
  · cases hs
theorem ax_div_ok {op : Int32 → Int32 → Int32}
    (r : ∀ (ls : Array Slot) (H : Heap) (locs : List Loc) (rest : List Value) (x y : Int32), ¬ y = 0 → W p l e R s m args below meth c H locs cs ss Q (F0 m (pc + 1) ls (.int (op x y) :: rest)) → W p l e R s m args below meth c H locs cs ss Q (F0 m pc ls (.int y :: .int x :: rest)))
    (hs : ax_s_div pc lv st h n cs ss op = some F) (kk : ax_WF G p l e R s m args below meth c Q nL F) : ax_W G p l e R s m args below meth c Q nL pc lv st (ax_hget h) n cs ss := by
  intro ls H locs hl hR hL
  unfold ax_s_div at hs
  split at hs
  · rename_i y x st'
    cases e1 : decide (y = 0) with
    | true => simp only [e1, cond_true] at hs; cases hs
    | false =>
      simp only [e1, cond_false] at hs
      obtain rfl := Option.some.inj hs
      exact r ls H locs _ _ _ (of_decide_eq_false e1) (kk ls H locs hl hR hL)
  · cases hs
theorem ax_rg_ok (hρ : ∀ u, (iv u).1 ≤ (G.2.2.2.1 u).toInt ∧ (G.2.2.2.1 u).toInt ≤ (iv u).2) {v : Value} {r : Int × Int} (h : ax_rg iv v = some r) : ∃ x : Int32, ax_v G v = .int x ∧ r.1 ≤ x.toInt ∧ x.toInt ≤ r.2 := by
  cases v with
  | int x => cases h; exact ⟨x, rfl, Int.le_refl _, Int.le_refl _⟩
  | float u => cases h; exact ⟨_, rfl, hρ _⟩
  | _ => cases h
theorem ax_br_ok (hρ : ∀ u, (iv u).1 ≤ (G.2.2.2.1 u).toInt ∧ (G.2.2.2.1 u).toInt ≤ (iv u).2) {cn : ClassFile.Cond} {off : Int} {a b : Value} {st0 : List Value}
    (r : ∀ (ls : Array Slot) (H : Heap) (locs : List Loc) (x y : Int32) (tgt : Nat), ax_v G a = .int x → ax_v G b = .int y → (pc : Int) + off = (tgt : Int) → (ax_holds cn x y → W p l e R s m args below meth c H locs cs ss Q (F0 m tgt ls (st.map (ax_v G)))) → (¬ ax_holds cn x y → W p l e R s m args below meth c H locs cs ss Q (F0 m (pc + 3) ls (st.map (ax_v G)))) → W p l e R s m args below meth c H locs cs ss Q (F0 m pc ls (st0.map (ax_v G))))
    (hs : ax_s_br iv pc lv h n cs ss cn off a b st = some F) (kk : ax_WF G p l e R s m args below meth c Q nL F) : ax_W G p l e R s m args below meth c Q nL pc lv st0 (ax_hget h) n cs ss := by
  intro ls H locs hl hR hL
  unfold ax_s_br at hs
  cases htg : ax_to pc off with
  | none => simp only [htg] at hs; cases hs
  | some tg =>
  simp only [htg] at hs
  cases ea : ax_rg iv a with
  | none => simp only [ea] at hs; cases hs
  | some ra =>
    cases eb : ax_rg iv b with
    | none => simp only [ea, eb] at hs; cases hs
    | some rb =>
      simp only [ea, eb] at hs
      obtain ⟨x, hx, hx2⟩ := ax_rg_ok hρ ea
      obtain ⟨y, hy, hy2⟩ := ax_rg_ok hρ eb
      cases ec : ax_cmp cn ra rb with
      | none => simp only [ec] at hs; cases hs
      | some t =>
        have hc := ax_cmp_ok hx2 hy2 ec
        cases t with
        | true =>
          simp only [ec] at hs
          obtain rfl := Option.some.inj hs
          exact r ls H locs x y tg hx hy (ax_to_ok htg) (fun _ => kk ls H locs hl hR hL) (fun hn => absurd (hc.mpr rfl) hn)
        | false =>
          simp only [ec] at hs
          obtain rfl := Option.some.inj hs
          exact r ls H locs x y tg hx hy (ax_to_ok htg) (fun hh => by have := hc.mp hh; cases this) (fun _ => kk ls H locs hl hR hL)
theorem ax_lookup_dflt {ps : List (Int × Int)} {d x : Int} (h : ∀ q ∈ ps, q.1 ≠ x) : Op.lookupswitch.offset ps d x = d := by
  induction ps with
  | nil => rfl
  | cons q ps ih =>
    obtain ⟨a, o⟩ := q
    rw [Op.lookupswitch.offset_cons, if_neg (h (a, o) List.mem_cons_self)]
    exact ih fun q hq => h q (List.mem_cons_of_mem _ hq)
end AXS
end
section
/-! ===== one step is the machine's: all instructions ===== -/
section AXT
variable {G : ax_T} {p : Program} {l : Launch} {e : Env} {R : Room} {s : State} {m : MethodId} {args : Array Value} {below : List Frame} {meth : Method} {c : Code} {Q : State → Prop} {own nm : String} {cc : ByteArray} {nL : Nat}
variable {pc : Nat} {lv : List (Nat × Value)} {st : List Value} {h : ax_H} {n cs ss : Nat} {iv : Nat → Int × Int} {pe : ax_PE} {F : ax_F}
theorem ax_nneg {i : Int32} (h : 0 ≤ i.toInt) : ¬ i < 0 := by
  rw [Int32.lt_iff_toInt_lt]
  exact Int.not_lt.mpr h
theorem ax_iinc (hx : p.tables.exec = Jvm.exec) (hb : c.code = cc) {k : Nat} {x : Int} {v : Int32} {ls : Array Slot} {H : Heap} {locs : List Loc} {rest : List Value} (hd : decode cc pc = .ok (.iinc k x, 3)) (hl : lv_has ls nL (lv.map fun q => (q.1, ax_v G q.2))) (hv : ax_look lv k = some (.int v)) (hk : k < nL)
    (kk : ∀ ls' : Array Slot, lv_has ls' nL ((ax_put1 lv k (.int (v + Int32.ofInt x))).map fun q => (q.1, ax_v G q.2)) → W p l e R s m args below meth c H locs cs ss Q (F0 m (pc + 3) ls' rest)) : W p l e R s m args below meth c H locs cs ss Q (F0 m pc ls rest) := by
  unfold ax_look at hv
  cases e0 : lv.find? (fun q => q.1 == k) with
  | none => rw [e0] at hv; cases hv
  | some q =>
    rw [e0] at hv
    have h1 : q.2 = .int v := Option.some.inj hv
    have h2 : q.1 = k := by simpa using List.find?_some e0
    obtain ⟨j, hj⟩ := List.getElem?_of_mem (List.mem_of_find?_eq_some e0)
    have h3 : (lv.map fun q => (q.1, ax_v G q.2))[j]? = some (k, .int v) := by rw [List.getElem?_map, hj]; simp only [Option.map_some, h1, h2]; rfl
    exact lv_iinc (v := v + Int32.ofInt x) hx hb hd hl h3 rfl hk (ax_put1_map G lv k (.int (v + Int32.ofInt x))) kk
set_option maxHeartbeats 4000000 in
theorem ax_step_ok {prog : List ax_MI} (M : ax_M G p s m args meth c own cc nL) (hnm : meth.name = nm) (hρ : ∀ u, (iv u).1 ≤ (G.2.2.2.1 u).toInt ∧ (G.2.2.2.1 u).toInt ≤ (iv u).2) {i : Instr} {len : Nat} (hok : ax_Ok prog own nm cc pc i len pe)
    (hs : ax_step iv nL i pe pc lv st h n cs ss = some F) (hr : F.2.2.2.2.2.1 ≤ R.cells ∧ F.2.2.2.2.2.2 ≤ R.slots ∧ 1 ≤ R.frames ∧ 40 ≤ R.locals) (kk : ax_WF G p l e R s m args below meth c Q nL F) : ax_W G p l e R s m args below meth c Q nL pc lv st (ax_hget h) n cs ss := by
  obtain ⟨hd, hlen, hw⟩ := hok
  obtain ⟨hx, hb, hml, hown, hts, hlocks, hX⟩ := id M
  cases i with
  | iconst k =>
    obtain rfl : len = 1 := hlen.elim (fun q => absurd q (Nat.succ_ne_zero _)) (fun q => q)
    obtain rfl := Option.some.inj hs
    exact fun ls H locs hl hR hL => lv_iconst hx hb hd rfl (kk ls H locs hl hR hL)
  | bipush k =>
    obtain rfl : len = 2 := hlen.elim (fun q => absurd q (Nat.succ_ne_zero _)) (fun q => q)
    obtain rfl := Option.some.inj hs
    exact fun ls H locs hl hR hL => lv_bipush hx hb hd rfl (kk ls H locs hl hR hL)
  | sipush k =>
    obtain rfl : len = 3 := hlen.elim (fun q => absurd q (Nat.succ_ne_zero _)) (fun q => q)
    obtain rfl := Option.some.inj hs
    exact fun ls H locs hl hR hL => lv_sipush hx hb hd rfl (kk ls H locs hl hR hL)
  | lconst k =>
    obtain rfl : len = 1 := hlen.elim (fun q => absurd q (Nat.succ_ne_zero _)) (fun q => q)
    obtain rfl := Option.some.inj hs
    exact fun ls H locs hl hR hL => lv_lconst hx hb hd rfl (kk ls H locs hl hR hL)
  | ldc k =>
    obtain rfl : len = 2 := hlen.elim (fun q => absurd q (Nat.succ_ne_zero _)) (fun q => q)
    obtain rfl := Option.some.inj hs
    exact fun ls H locs hl hR hL => lv_ldc hx hb hown (hts _ hw) hd (kk ls H locs hl hR hL)
  | ldc_w k =>
    obtain rfl : len = 3 := hlen.elim (fun q => absurd q (Nat.succ_ne_zero _)) (fun q => q)
    obtain rfl := Option.some.inj hs
    exact fun ls H locs hl hR hL => lv_ldcw hx hb hown (hts _ hw) hd (kk ls H locs hl hR hL)
  | ldc2_w k =>
    obtain rfl : len = 3 := hlen.elim (fun q => absurd q (Nat.succ_ne_zero _)) (fun q => q)
    obtain rfl := Option.some.inj hs
    exact fun ls H locs hl hR hL => lv_ldc2 hx hb hown (hts _ hw) hd (kk ls H locs hl hR hL)
  | iload k =>
    obtain rfl : len = 2 := hlen.elim (fun q => absurd q (Nat.succ_ne_zero _)) (fun q => q)
    exact ax_ld_ok (fun _ ls H locs x hxx w => lv_iload hx hb hd hxx w) (fun h => absurd h (by decide)) (fun h => absurd h (by decide)) hs kk
  | iload_n k =>
    obtain rfl : len = 1 := hlen.elim (fun q => absurd q (Nat.succ_ne_zero _)) (fun q => q)
    exact ax_ld_ok (fun _ ls H locs x hxx w => lv_iload_n hx hb hd rfl hxx w) (fun h => absurd h (by decide)) (fun h => absurd h (by decide)) hs kk
  | aload k =>
    obtain rfl : len = 2 := hlen.elim (fun q => absurd q (Nat.succ_ne_zero _)) (fun q => q)
    exact ax_ld_ok (fun h => absurd h (by decide)) (fun _ ls H locs x hxx w => lv_aload hx hb hd hxx w) (fun h => absurd h (by decide)) hs kk
  | aload_n k =>
    obtain rfl : len = 1 := hlen.elim (fun q => absurd q (Nat.succ_ne_zero _)) (fun q => q)
    exact ax_ld_ok (fun h => absurd h (by decide)) (fun _ ls H locs x hxx w => lv_aload_n hx hb hd rfl hxx w) (fun h => absurd h (by decide)) hs kk
  | lload k =>
    obtain rfl : len = 2 := hlen.elim (fun q => absurd q (Nat.succ_ne_zero _)) (fun q => q)
    exact ax_ld_ok (fun h => absurd h (by decide)) (fun h => absurd h (by decide)) (fun _ ls H locs x hxx w => lv_lload hx hb hd hxx w) hs kk
  | lload_n k =>
    obtain rfl : len = 1 := hlen.elim (fun q => absurd q (Nat.succ_ne_zero _)) (fun q => q)
    exact ax_ld_ok (fun h => absurd h (by decide)) (fun h => absurd h (by decide)) (fun _ ls H locs x hxx w => lv_lload_n hx hb hd rfl hxx w) hs kk
  | istore k =>
    obtain rfl : len = 2 := hlen.elim (fun q => absurd q (Nat.succ_ne_zero _)) (fun q => q)
    exact ax_st_ok (fun _ ls H locs rest x lw lw' hl hn he w => lv_istore hx hb hd hl hn he w) (fun h => absurd h (by decide)) (fun h => absurd h (by decide)) hs kk
  | istore_n k =>
    obtain rfl : len = 1 := hlen.elim (fun q => absurd q (Nat.succ_ne_zero _)) (fun q => q)
    exact ax_st_ok (fun _ ls H locs rest x lw lw' hl hn he w => lv_istore_n hx hb hd rfl hl hn he w) (fun h => absurd h (by decide)) (fun h => absurd h (by decide)) hs kk
  | astore k =>
    obtain rfl : len = 2 := hlen.elim (fun q => absurd q (Nat.succ_ne_zero _)) (fun q => q)
    exact ax_st_ok (fun h => absurd h (by decide)) (fun _ ls H locs rest x lw lw' hl hn he w => lv_astore hx hb hd hl hn he w) (fun h => absurd h (by decide)) hs kk
  | astore_n k =>
    obtain rfl : len = 1 := hlen.elim (fun q => absurd q (Nat.succ_ne_zero _)) (fun q => q)
    exact ax_st_ok (fun h => absurd h (by decide)) (fun _ ls H locs rest x lw lw' hl hn he w => lv_astore_n hx hb hd rfl hl hn he w) (fun h => absurd h (by decide)) hs kk
  | lstore k =>
    obtain rfl : len = 2 := hlen.elim (fun q => absurd q (Nat.succ_ne_zero _)) (fun q => q)
    exact ax_st_ok (fun h => absurd h (by decide)) (fun h => absurd h (by decide)) (fun _ ls H locs rest x lw lw' hl hn he w => lv_lstore hx hb hd hl hn he w) hs kk
  | lstore_n k =>
    obtain rfl : len = 1 := hlen.elim (fun q => absurd q (Nat.succ_ne_zero _)) (fun q => q)
    exact ax_st_ok (fun h => absurd h (by decide)) (fun h => absurd h (by decide)) (fun _ ls H locs rest x lw lw' hl hn he w => lv_lstore_n hx hb hd rfl hl hn he w) hs kk
  | iinc k x =>
    obtain rfl : len = 3 := hlen.elim (fun q => absurd q (Nat.succ_ne_zero _)) (fun q => q)
    simp only [ax_step] at hs
    split at hs
    · rename_i v hv
      cases e1 : Nat.blt k nL with
      | false => simp only [e1, cond_false] at hs; cases hs
      | true =>
        simp only [e1, cond_true] at hs
        obtain rfl := Option.some.inj hs
        intro ls H locs hl hR hL
        exact ax_iinc hx hb hd hl hv (by simpa [Nat.blt_eq] using e1) (fun ls' hl' => kk ls' H locs hl' hR hL)
    · cases hs
  | iadd =>
    obtain rfl : len = 1 := hlen.elim (fun q => absurd q (Nat.succ_ne_zero _)) (fun q => q)
    exact ax_i2_ok (fun ls H locs rest x y w => lv_iadd hx hb hd w) hs kk
  | isub =>
    obtain rfl : len = 1 := hlen.elim (fun q => absurd q (Nat.succ_ne_zero _)) (fun q => q)
    exact ax_i2_ok (fun ls H locs rest x y w => lv_isub hx hb hd w) hs kk
  | imul =>
    obtain rfl : len = 1 := hlen.elim (fun q => absurd q (Nat.succ_ne_zero _)) (fun q => q)
    exact ax_i2_ok (fun ls H locs rest x y w => lv_imul hx hb hd w) hs kk
  | iand =>
    obtain rfl : len = 1 := hlen.elim (fun q => absurd q (Nat.succ_ne_zero _)) (fun q => q)
    exact ax_i2_ok (fun ls H locs rest x y w => lv_iand hx hb hd w) hs kk
  | ior =>
    obtain rfl : len = 1 := hlen.elim (fun q => absurd q (Nat.succ_ne_zero _)) (fun q => q)
    exact ax_i2_ok (fun ls H locs rest x y w => lv_ior hx hb hd w) hs kk
  | ishl =>
    obtain rfl : len = 1 := hlen.elim (fun q => absurd q (Nat.succ_ne_zero _)) (fun q => q)
    exact ax_i2_ok (fun ls H locs rest x y w => lv_ishl hx hb hd w) hs kk
  | ishr =>
    obtain rfl : len = 1 := hlen.elim (fun q => absurd q (Nat.succ_ne_zero _)) (fun q => q)
    exact ax_i2_ok (fun ls H locs rest x y w => lv_ishr hx hb hd w) hs kk
  | idiv =>
    obtain rfl : len = 1 := hlen.elim (fun q => absurd q (Nat.succ_ne_zero _)) (fun q => q)
    exact ax_div_ok (fun ls H locs rest x y hy w => lv_idiv hx hb hd hy w) hs kk
  | irem =>
    obtain rfl : len = 1 := hlen.elim (fun q => absurd q (Nat.succ_ne_zero _)) (fun q => q)
    exact ax_div_ok (fun ls H locs rest x y hy w => lv_irem hx hb hd hy w) hs kk
  | ladd =>
    obtain rfl : len = 1 := hlen.elim (fun q => absurd q (Nat.succ_ne_zero _)) (fun q => q)
    exact ax_l2_ok (fun ls H locs rest x y w => lv_ladd hx hb hd w) hs kk
  | lmul =>
    obtain rfl : len = 1 := hlen.elim (fun q => absurd q (Nat.succ_ne_zero _)) (fun q => q)
    exact ax_l2_ok (fun ls H locs rest x y w => lv_lmul hx hb hd w) hs kk
  | ineg =>
    obtain rfl : len = 1 := hlen.elim (fun q => absurd q (Nat.succ_ne_zero _)) (fun q => q)
    simp only [ax_step] at hs
    split at hs
    · obtain rfl := Option.some.inj hs
      exact fun ls H locs hl hR hL => lv_ineg hx hb hd (kk ls H locs hl hR hL)
    · cases hs
  | i2l =>
    obtain rfl : len = 1 := hlen.elim (fun q => absurd q (Nat.succ_ne_zero _)) (fun q => q)
    simp only [ax_step] at hs
    split at hs
    · obtain rfl := Option.some.inj hs
      exact fun ls H locs hl hR hL => lv_i2l hx hb hd rfl (kk ls H locs hl hR hL)
    · cases hs
  | dup =>
    obtain rfl : len = 1 := hlen.elim (fun q => absurd q (Nat.succ_ne_zero _)) (fun q => q)
    simp only [ax_step] at hs
    split at hs
    · rename_i v st'
      cases e1 : v.category == 1 with
      | false => simp only [e1, cond_false] at hs; cases hs
      | true =>
        simp only [e1, cond_true] at hs
        obtain rfl := Option.some.inj hs
        exact fun ls H locs hl hR hL => lv_dup hx hb hd (by rw [ax_cat]; simpa using e1) (kk ls H locs hl hR hL)
    · cases hs
  | pop =>
    obtain rfl : len = 1 := hlen.elim (fun q => absurd q (Nat.succ_ne_zero _)) (fun q => q)
    simp only [ax_step] at hs
    split at hs
    · rename_i v st'
      cases e1 : v.category == 1 with
      | false => simp only [e1, cond_false] at hs; cases hs
      | true =>
        simp only [e1, cond_true] at hs
        obtain rfl := Option.some.inj hs
        exact fun ls H locs hl hR hL => lv_pop hx hb hd (by rw [ax_cat]; simpa using e1) (kk ls H locs hl hR hL)
    · cases hs
  | dup2 =>
    obtain rfl : len = 1 := hlen.elim (fun q => absurd q (Nat.succ_ne_zero _)) (fun q => q)
    simp only [ax_step] at hs
    split at hs
    · rename_i v w st'
      cases e1 : (v.category == 1 && w.category == 1) with
      | false => simp only [e1, cond_false] at hs; cases hs
      | true =>
        simp only [e1, cond_true] at hs
        obtain rfl := Option.some.inj hs
        simp only [Bool.and_eq_true, beq_iff_eq] at e1
        exact fun ls H locs hl hR hL => lv_dup2_11 hx hb hd (by rw [ax_cat]; exact e1.1) (by rw [ax_cat]; exact e1.2) (kk ls H locs hl hR hL)
    · cases hs
  | goto off =>
    obtain rfl : len = 3 := hlen.elim (fun q => absurd q (Nat.succ_ne_zero _)) (fun q => q)
    simp only [ax_step, Option.map_eq_some_iff] at hs
    obtain ⟨t, ht, rfl⟩ := hs
    exact fun ls H locs hl hR hL => lv_goto hx hb hd (ax_to_ok ht) (kk ls H locs hl hR hL)
  | ifCond cn off =>
    obtain rfl : len = 3 := hlen.elim (fun q => absurd q (Nat.succ_ne_zero _)) (fun q => q)
    simp only [ax_step] at hs
    split at hs
    · refine ax_br_ok hρ (fun ls H locs x y tgt ha hb0 ht kt kf => ?_) hs kk
      have hy : y = 0 := by cases hb0; rfl
      subst hy
      simp only [List.map_cons, ha]
      cases cn with
      | eq => exact lv_if_eq hx hb hd ht kt kf
      | ne => exact lv_if_ne hx hb hd ht kt (fun hh => kf (fun hn => hn hh))
      | lt => exact lv_if_lt hx hb hd ht kt kf
      | ge => exact lv_if_ge hx hb hd ht kt kf
      | gt => exact lv_if_gt hx hb hd ht kt kf
      | le => exact lv_if_le hx hb hd ht kt kf
    · cases hs
  | if_icmp cn off =>
    obtain rfl : len = 3 := hlen.elim (fun q => absurd q (Nat.succ_ne_zero _)) (fun q => q)
    simp only [ax_step] at hs
    split at hs
    · refine ax_br_ok hρ (fun ls H locs x y tgt ha hb0 ht kt kf => ?_) hs kk
      simp only [List.map_cons, ha, hb0]
      cases cn with
      | eq => exact lv_icmp_eq hx hb hd ht kt kf
      | ne => exact lv_icmp_ne hx hb hd ht kt (fun hh => kf (fun hn => hn hh))
      | lt => exact lv_icmp_lt hx hb hd ht kt kf
      | ge => exact lv_icmp_ge hx hb hd ht kt kf
      | gt => exact lv_icmp_gt hx hb hd ht kt kf
      | le => exact lv_icmp_le hx hb hd ht kt kf
    · cases hs
  | getfield idx =>
    obtain rfl : len = 3 := hlen.elim (fun q => absurd q (Nat.succ_ne_zero _)) (fun q => q)
    obtain ⟨C, T, N, hc, hj, hlk⟩ := hw
    simp only [ax_step, ax_s_getf] at hs
    split at hs
    · rename_i k st'
      split at hs
      · rename_i ci fs hk
        cases e1 : ci == pe.2.1 with
        | false => simp only [e1, cond_false] at hs; cases hs
        | true =>
          simp only [e1, cond_true, Option.map_eq_some_iff] at hs
          obtain ⟨v, hv, rfl⟩ := hs
          have e2 : ci = pe.2.1 := by simpa using e1
          subst e2
          exact ax_getf M (ax_get_of hk) hc hj hv hlk hd kk
      · cases hs
    · cases hs
  | putfield idx =>
    obtain rfl : len = 3 := hlen.elim (fun q => absurd q (Nat.succ_ne_zero _)) (fun q => q)
    obtain ⟨C, T, N, hc, hj, hlk⟩ := hw
    simp only [ax_step, ax_s_putf] at hs
    split at hs
    · rename_i v k st'
      split at hs
      · rename_i ci fs hk
        cases e1 : (ci == pe.2.1 && (Nat.blt pe.2.2.1 fs.length && ax_fit (ax_ty pe.2.1 pe.2.2.1) v)) with
        | false => simp only [e1, cond_false] at hs; cases hs
        | true =>
          simp only [e1, cond_true] at hs
          obtain rfl := Option.some.inj hs
          simp only [Bool.and_eq_true, beq_iff_eq, Nat.blt_eq] at e1
          obtain ⟨rfl, hf, hfit⟩ := e1
          rcases hlk with ⟨hfin, hlk⟩ | ⟨hfin, hlk, hn, hdecl⟩
          · exact ax_putf M (ax_get_of hk) hc hj hf hlk hfin (ax_fit_ok G hfit).1 (ax_fit_ok G hfit).2 hd ax_hget_set kk
          · exact ax_putF M (ax_get_of hk) hc hj hf hlk hfin (hnm.trans hn) hdecl (ax_fit_ok G hfit).1 (ax_fit_ok G hfit).2 hd ax_hget_set kk
      · cases hs
    · cases hs
  | getstatic idx =>
    obtain rfl : len = 3 := hlen.elim (fun q => absurd q (Nat.succ_ne_zero _)) (fun q => q)
    obtain ⟨z, hz, hlk⟩ := hw
    obtain rfl := Option.some.inj hs
    exact ax_gets M hz hlk hd kk
  | iaload =>
    obtain rfl : len = 1 := hlen.elim (fun q => absurd q (Nat.succ_ne_zero _)) (fun q => q)
    simp only [ax_step, ax_s_iald] at hs
    split at hs
    · rename_i i k st'
      split at hs
      · rename_i t N f hk
        cases e1 : (t == 0 && ax_inB i N) with
        | false => simp only [e1, cond_false] at hs; cases hs
        | true =>
          simp only [e1, cond_true] at hs
          obtain rfl := Option.some.inj hs
          simp only [Bool.and_eq_true, beq_iff_eq] at e1
          obtain ⟨rfl, hi⟩ := e1
          exact ax_iald M (ax_get_of hk) rfl (ax_inB_ok hi) hd kk
      · cases hs
    · rename_i i j st'
      split at hs
      · rename_i z hz
        cases e1 : ax_inB i z.2.2.length with
        | false => simp only [e1, cond_false] at hs; cases hs
        | true =>
          simp only [e1, cond_true] at hs
          obtain rfl := Option.some.inj hs
          exact ax_sald M hz (ax_inB_ok e1) hd kk
      · cases hs
    · cases hs
  | baload =>
    obtain rfl : len = 1 := hlen.elim (fun q => absurd q (Nat.succ_ne_zero _)) (fun q => q)
    simp only [ax_step, ax_s_bald] at hs
    split at hs
    · rename_i i k st'
      split at hs
      · rename_i t N f hk
        cases e1 : (t == 1 && ax_inB i N) with
        | false => simp only [e1, cond_false] at hs; cases hs
        | true =>
          simp only [e1, cond_true] at hs
          obtain rfl := Option.some.inj hs
          simp only [Bool.and_eq_true, beq_iff_eq] at e1
          obtain ⟨rfl, hi⟩ := e1
          exact ax_bald M (ax_get_of hk) rfl (ax_inB_ok hi) hd kk
      · cases hs
    · cases hs
  | aaload =>
    obtain rfl : len = 1 := hlen.elim (fun q => absurd q (Nat.succ_ne_zero _)) (fun q => q)
    simp only [ax_step, ax_s_aald] at hs
    split at hs
    · rename_i i k st'
      split at hs
      · rename_i t N f hk
        cases et : ax_tc t with
        | none => simp only [et] at hs; cases hs
        | some q =>
          cases e1 : ax_inB i N with
          | false => simp only [et, e1, cond_false] at hs; cases hs
          | true =>
            simp only [et, e1, cond_true, Option.map_eq_some_iff] at hs
            obtain ⟨k', hk', rfl⟩ := hs
            exact ax_aald M (ax_get_of hk) (ax_tc_ok et).1 (ax_inB_ok e1) hk' hd kk
      · cases hs
    · cases hs
  | iastore =>
    obtain rfl : len = 1 := hlen.elim (fun q => absurd q (Nat.succ_ne_zero _)) (fun q => q)
    simp only [ax_step, ax_s_iast] at hs
    split at hs
    · rename_i x i k st'
      split at hs
      · rename_i t N f hk
        cases e1 : (t == 0 && ax_inB i N) with
        | false => simp only [e1, cond_false] at hs; cases hs
        | true =>
          simp only [e1, cond_true] at hs
          obtain rfl := Option.some.inj hs
          simp only [Bool.and_eq_true, beq_iff_eq] at e1
          obtain ⟨rfl, hi⟩ := e1
          exact ax_iast M (ax_get_of hk) rfl (ax_inB_ok hi) hd ax_hget_set kk
      · cases hs
    · cases hs
  | land =>
    obtain rfl : len = 1 := hlen.elim (fun q => absurd q (Nat.succ_ne_zero _)) (fun q => q)
    exact ax_l2_ok (fun ls H locs rest x y w => lv_land hx hb hd w) hs kk
  | lshr =>
    obtain rfl : len = 1 := hlen.elim (fun q => absurd q (Nat.succ_ne_zero _)) (fun q => q)
    simp only [ax_step, ax_s_li] at hs
    split at hs
    · obtain rfl := Option.some.inj hs
      exact fun ls H locs hl hR hL => lv_lshr hx hb hd rfl (kk ls H locs hl hR hL)
    · cases hs
  | lushr =>
    obtain rfl : len = 1 := hlen.elim (fun q => absurd q (Nat.succ_ne_zero _)) (fun q => q)
    simp only [ax_step, ax_s_li] at hs
    split at hs
    · obtain rfl := Option.some.inj hs
      exact fun ls H locs hl hR hL => lv_lushr hx hb hd rfl (kk ls H locs hl hR hL)
    · cases hs
  | l2i =>
    obtain rfl : len = 1 := hlen.elim (fun q => absurd q (Nat.succ_ne_zero _)) (fun q => q)
    simp only [ax_step] at hs
    split at hs
    · obtain rfl := Option.some.inj hs
      exact fun ls H locs hl hR hL => lv_l2i hx hb hd rfl (kk ls H locs hl hR hL)
    · cases hs
  | i2b =>
    obtain rfl : len = 1 := hlen.elim (fun q => absurd q (Nat.succ_ne_zero _)) (fun q => q)
    simp only [ax_step] at hs
    split at hs
    · obtain rfl := Option.some.inj hs
      exact fun ls H locs hl hR hL => lv_i2b hx hb hd rfl (kk ls H locs hl hR hL)
    · cases hs
  | i2c =>
    obtain rfl : len = 1 := hlen.elim (fun q => absurd q (Nat.succ_ne_zero _)) (fun q => q)
    simp only [ax_step] at hs
    split at hs
    · obtain rfl := Option.some.inj hs
      exact fun ls H locs hl hR hL => lv_i2c hx hb hd rfl (kk ls H locs hl hR hL)
    · cases hs
  | iushr =>
    obtain rfl : len = 1 := hlen.elim (fun q => absurd q (Nat.succ_ne_zero _)) (fun q => q)
    exact ax_i2_ok (fun ls H locs rest x y w => lv_iushr hx hb hd rfl w) hs kk
  | arraylength =>
    obtain rfl : len = 1 := hlen.elim (fun q => absurd q (Nat.succ_ne_zero _)) (fun q => q)
    simp only [ax_step, ax_s_alen] at hs
    split at hs
    · rename_i k st'
      split at hs
      · rename_i t N f hk
        cases e1 : Nat.blt t 2 with
        | false => simp only [e1, cond_false] at hs; cases hs
        | true =>
          simp only [e1, cond_true] at hs
          obtain rfl := Option.some.inj hs
          match t, e1, hk with
          | 0, _, hk => exact ax_alen M (ax_get_of hk) rfl hd kk
          | 1, _, hk => exact ax_alen M (ax_get_of hk) rfl hd kk
          | t + 2, e1, _ => rw [show Nat.blt (t + 2) 2 = false by rw [Nat.blt]; rfl] at e1; cases e1
      · cases hs
    · cases hs
  | bastore =>
    obtain rfl : len = 1 := hlen.elim (fun q => absurd q (Nat.succ_ne_zero _)) (fun q => q)
    simp only [ax_step, ax_s_bast] at hs
    split at hs
    · rename_i x i k st'
      split at hs
      · rename_i t N f hk
        cases e1 : (t == 1 && (ax_inB i N && decide (vp_nar .byte x = x))) with
        | false => simp only [e1, cond_false] at hs; cases hs
        | true =>
          simp only [e1, cond_true] at hs
          obtain rfl := Option.some.inj hs
          simp only [Bool.and_eq_true, beq_iff_eq, decide_eq_true_eq] at e1
          obtain ⟨rfl, hi, hxx⟩ := e1
          refine ax_bast M (ax_get_of hk) rfl (ax_inB_ok hi) hd ?_ kk
          rw [hxx]
          exact ax_hget_set
      · cases hs
    · cases hs
  | aastore =>
    obtain rfl : len = 1 := hlen.elim (fun q => absurd q (Nat.succ_ne_zero _)) (fun q => q)
    simp only [ax_step, ax_s_aast] at hs
    split at hs
    · rename_i k' i k st'
      split at hs
      · rename_i t N f ci fs hk hk'
        cases et : ax_tc t with
        | none => simp only [et] at hs; cases hs
        | some q =>
          cases e1 : (ci == q.1 && ax_inB i N) with
          | false => simp only [et, e1, cond_false] at hs; cases hs
          | true =>
            simp only [et, e1, cond_true] at hs
            obtain rfl := Option.some.inj hs
            simp only [Bool.and_eq_true, beq_iff_eq] at e1
            obtain ⟨rfl, hi⟩ := e1
            obtain ⟨h1, T, N', h2⟩ := ax_tc_ok et
            exact ax_aast M (ax_get_of hk) h1 (ax_get_of hk') h2 (ax_inB_ok hi) hd ax_hget_set kk
      · cases hs
    · cases hs
  | new idx =>
    obtain rfl : len = 3 := hlen.elim (fun q => absurd q (Nat.succ_ne_zero _)) (fun q => q)
    obtain ⟨C, T, hc, hw1, hw2, hw3, hnf⟩ := hw
    obtain rfl := Option.some.inj hs
    exact ax_new M hc hw1 hw2 hw3 hnf hr.1 hr.2.1 hd ax_hget_push kk
  | newarray a =>
    obtain rfl : len = 2 := hlen.elim (fun q => absurd q (Nat.succ_ne_zero _)) (fun q => q)
    obtain ⟨hw1, ht, ha⟩ := hw
    simp only [ax_step, ax_s_newa] at hs
    split at hs
    · rename_i i st'
      cases e1 : (decide (0 ≤ i.toInt) && decide (i.toNatClampNeg * 8 ≤ 536870912)) with
      | false => simp only [e1, cond_false] at hs; cases hs
      | true =>
        simp only [e1, cond_true] at hs
        obtain rfl := Option.some.inj hs
        simp only [Bool.and_eq_true, decide_eq_true_eq] at e1
        exact ax_newa M hw1 ht ha (ax_nneg e1.1) e1.2 hr.1 hr.2.1 hd ax_hget_push kk
    · cases hs
  | anewarray idx =>
    obtain rfl : len = 3 := hlen.elim (fun q => absurd q (Nat.succ_ne_zero _)) (fun q => q)
    obtain ⟨C, hw1, ht, ha⟩ := hw
    simp only [ax_step, ax_s_newq] at hs
    split at hs
    · rename_i i st'
      cases e1 : (decide (0 ≤ i.toInt) && decide (i.toNatClampNeg * 4 ≤ 536870912)) with
      | false => simp only [e1, cond_false] at hs; cases hs
      | true =>
        simp only [e1, cond_true] at hs
        obtain rfl := Option.some.inj hs
        simp only [Bool.and_eq_true, decide_eq_true_eq] at e1
        exact ax_newq M hw1 ht ha (ax_nneg e1.1) e1.2 hr.1 hr.2.1 hd ax_hget_push kk
    · cases hs
  | tableswitch d lo hi offs =>
    simp only [ax_step, ax_s_table] at hs
    split at hs
    · rename_i x st'
      cases e1 : (decide (x.toInt < lo) || decide (hi < x.toInt)) with
      | true =>
        simp only [e1, cond_true, Option.map_eq_some_iff] at hs
        obtain ⟨t, ht, rfl⟩ := hs
        simp only [Bool.or_eq_true, decide_eq_true_eq] at e1
        exact fun ls H locs hl hR hL => lv_tableOut hx hb hd e1 (ax_to_ok ht) (kk ls H locs hl hR hL)
      | false =>
        simp only [e1, cond_false] at hs
        simp only [Bool.or_eq_false_iff, decide_eq_false_iff_not] at e1
        split at hs
        · rename_i off ho
          simp only [Option.map_eq_some_iff] at hs
          obtain ⟨t, ht, rfl⟩ := hs
          exact fun ls H locs hl hR hL => lv_tableIn hx hb hd e1.1 e1.2 ho (ax_to_ok ht) (kk ls H locs hl hR hL)
        · cases hs
    · rename_i u st'
      cases e1 : (decide ((iv u.toNat).2 < lo) || decide (hi < (iv u.toNat).1)) with
      | false => simp only [e1, cond_false] at hs; cases hs
      | true =>
        simp only [e1, cond_true, Option.map_eq_some_iff] at hs
        obtain ⟨t, ht, rfl⟩ := hs
        simp only [Bool.or_eq_true, decide_eq_true_eq] at e1
        have h2 := hρ u.toNat
        exact fun ls H locs hl hR hL => lv_tableOut hx hb hd (by omega) (ax_to_ok ht) (kk ls H locs hl hR hL)
    · cases hs
  | lookupswitch d ps =>
    simp only [ax_step, ax_s_lookup] at hs
    cases e0 : (ps.toList.zip (ps.toList.drop 1)).all (fun (a, next) => a.1 < next.1) with
    | false => rw [e0] at hs; cases hs
    | true =>
    rw [e0] at hs
    simp only [cond_true] at hs
    split at hs
    · rename_i x st'
      simp only [Option.map_eq_some_iff] at hs
      obtain ⟨t, ht, rfl⟩ := hs
      exact fun ls H locs hl hR hL => lv_lookup hx hb hd e0 rfl (ax_to_ok ht) (kk ls H locs hl hR hL)
    · rename_i u st'
      cases e1 : ps.toList.all (fun q => decide ((iv u.toNat).2 < q.1) || decide (q.1 < (iv u.toNat).1)) with
      | false => simp only [e1, cond_false] at hs; cases hs
      | true =>
        simp only [e1, cond_true, Option.map_eq_some_iff] at hs
        obtain ⟨t, ht, rfl⟩ := hs
        have h2 := hρ u.toNat
        have h3 : Op.lookupswitch.offset ps.toList d (G.2.2.2.1 u.toNat).toInt = d := ax_lookup_dflt (fun q hq => by
          have h4 := List.all_eq_true.mp e1 q hq
          simp only [Bool.or_eq_true, decide_eq_true_eq] at h4
          omega)
        exact fun ls H locs hl hR hL => lv_lookup hx hb hd e0 h3 (ax_to_ok ht) (kk ls H locs hl hR hL)
    · cases hs
  | invokespecial idx =>
    obtain rfl : len = 3 := hlen.elim (fun q => absurd q (Nat.succ_ne_zero _)) (fun q => q)
    simp only [ax_step] at hs
    split at hs
    · rename_i k st'
      cases e1 : (pe.1 == 8 && Nat.ble (ax_sum st') 8) with
      | false => simp only [e1, cond_false] at hs; cases hs
      | true =>
        simp only [e1, cond_true] at hs
        obtain rfl := Option.some.inj hs
        simp only [Bool.and_eq_true, beq_iff_eq, Nat.ble_eq] at e1
        rcases hw with ⟨-, hw1, hw2, hw3⟩ | ⟨hw1, -⟩
        · exact ax_objInit M hw1 hw2 hw3 hr.2.2.1 (Nat.le_trans (by decide) hr.2.2.2) e1.2 hd kk
        · exact absurd e1.1 hw1
    · cases hs
  | invokestatic idx =>
    obtain rfl : len = 3 := hlen.elim (fun q => absurd q (Nat.succ_ne_zero _)) (fun q => q)
    simp only [ax_step] at hs
    split at hs
    · rename_i y x st'
      cases e1 : (pe.1 == 9 && Nat.ble (ax_sum st') 8) with
      | false => simp only [e1, cond_false] at hs; cases hs
      | true =>
        simp only [e1, cond_true] at hs
        obtain rfl := Option.some.inj hs
        simp only [Bool.and_eq_true, beq_iff_eq, Nat.ble_eq] at e1
        rcases hw with ⟨-, hw1, hw2, hw3, hw4⟩ | ⟨hw1, -⟩
        · intro ls H locs hl hR hL
          exact va_mmin hx hb (by rw [hml]; exact hl.1.symm) hown (hts _ hw1) (hts _ hw2) (hts _ hw3) (hts _ hw4) hr.2.2.1 (by rw [ax_sum_map]; have := hr.2.2.2; omega) hr.1 hr.2.1 hd (kk ls H locs hl hR hL)
        · exact absurd e1.1 hw1
    · cases hs
  | _ => cases hs
end AXT
end
section
/-! ===== runs: a method's body, with its calls ===== -/
def ax_pop (k : Nat) (st : List Value) : Option (List Value × List Value) := bif Nat.ble k st.length then some ((st.take k).reverse, st.drop k) else none
theorem ax_pop_ok {k : Nat} {st as rest : List Value} (h : ax_pop k st = some (as, rest)) : st = as.reverse ++ rest ∧ as.length = k := by
  unfold ax_pop at h
  cases e : Nat.ble k st.length with
  | false => rw [e] at h; cases h
  | true =>
    rw [e] at h
    have hk : k ≤ st.length := by simpa [Nat.ble_eq] using e
    cases h
    refine ⟨by rw [List.reverse_reverse, List.take_append_drop], by simp [hk]⟩
def ax_at (tab : List (List ax_EN)) (pc : Nat) : Option ax_EN := (tab.getD (pc / 32) []).find? fun e => e.1 == pc
theorem ax_at_ok {tab : List (List ax_EN)} {pc : Nat} {e : ax_EN} (h : ax_at tab pc = some e) : e.1 = pc ∧ ∃ ch ∈ tab, e ∈ ch := by
  unfold ax_at at h
  refine ⟨by simpa using List.find?_some h, ?_⟩
  have hm := List.mem_of_find?_eq_some h
  rw [List.getD_eq_getElem?_getD] at hm
  cases e1 : tab[pc / 32]? with
  | none => rw [e1] at hm; simp at hm
  | some ch => rw [e1] at hm; exact ⟨ch, List.mem_of_getElem? e1, hm⟩
/-- answer, cells, how many -/
abbrev ax_O : Type := Option Value × ax_H × Nat
def ax_inv (prog : List ax_MI) (i : Instr) (pe : ax_PE) (st : List Value) (h : ax_H) : Option (ax_MI × List Value × List Value) := match i with
  | .invokestatic _ => bif pe.1 == 9 then none else match prog[pe.2.1]? with
    | some mi => match ax_pop mi.2.2.2.2.2.1 st with
      | some (as, rest) => bif Nat.ble (ax_sum rest) 8 then some (mi, as, rest) else none
      | none => none
    | none => none
  | .invokevirtual _ => match prog[pe.2.1]? with
    | some mi => match ax_pop mi.2.2.2.2.2.1 st with
      | some (as, .ref k :: rest) => match ax_raw h k with
        | some (.inr (ci, _)) => bif ci == pe.2.2.1 && Nat.ble (ax_sum rest) 8 then some (mi, .ref k :: as, rest) else none
        | _ => none
      | _ => none
    | none => none
  | .invokespecial _ => bif pe.1 == 8 then none else match prog[pe.2.1]? with
    | some mi => match ax_pop mi.2.2.2.2.2.1 st with
      | some (as, .ref k :: rest) => bif Nat.ble (ax_sum rest) 8 then some (mi, .ref k :: as, rest) else none
      | _ => none
    | none => none
  | _ => none
def ax_rets (i : Instr) (st : List Value) : Option (Option Value) := match i with
  | .ireturn => match st with
    | [.int x] => some (some (.int x))
    | [.float u] => some (some (.float u))
    | _ => none
  | .lreturn => match st with
    | [.long x] => some (some (.long x))
    | _ => none
  | .return_ => match st with
    | [] => some none
    | _ => none
  | _ => none
def ax_retT (ret : Option FieldType) (r : Option Value) : Bool := match ret, r with
  | none, none => true
  | some .int, some (.int _) => true
  | some .int, some (.float _) => true
  | some .boolean, some (.int v) => v == 0 || v == 1
  | some .long, some (.long _) => true
  | _, _ => false
def ax_body (iv : Nat → Int × Int) (prog : List ax_MI) (callee : ax_MI → List Value → ax_H → Nat → Option ax_O) (mi : ax_MI) : Nat → Nat → List (Nat × Value) → List Value → ax_H → Nat → Nat → Nat → Option ax_O
  | 0, _, _, _, _, _, _, _ => none
  | f + 1, pc, lv, st, h, n, cs, ss => match ax_at mi.2.2.2.2.2.2.2.2 pc with
    | none => none
    | some e => match ax_rets e.2.1 st with
      | some r => bif ax_retT mi.2.2.2.2.1 r then some (r, h, n) else none
      | none => match ax_inv prog e.2.1 e.2.2.2.1 st h with
        | some q => bif Nat.ble (cs + q.1.2.2.2.2.2.2.1) mi.2.2.2.2.2.2.1 && Nat.ble (ss + q.1.2.2.2.2.2.2.2.1) mi.2.2.2.2.2.2.2.1 then (match callee q.1 q.2.1 h n with
            | some o => ax_body iv prog callee mi f (pc + 3) lv (o.1.toList ++ q.2.2) o.2.1 o.2.2 (cs + q.1.2.2.2.2.2.2.1) (ss + q.1.2.2.2.2.2.2.2.1)
            | none => none) else none
        | none => match ax_step iv mi.2.2.2.1 e.2.1 e.2.2.2.1 pc lv st h n cs ss with
          | some F => bif Nat.ble F.2.2.2.2.2.1 mi.2.2.2.2.2.2.1 && Nat.ble F.2.2.2.2.2.2 mi.2.2.2.2.2.2.2.1 then ax_body iv prog callee mi f F.1 F.2.1 F.2.2.1 F.2.2.2.1 F.2.2.2.2.1 F.2.2.2.2.2.1 F.2.2.2.2.2.2 else none
          | none => none
def ax_call (iv : Nat → Int × Int) (prog : List ax_MI) : Nat → ax_MI → List Value → ax_H → Nat → Option ax_O
  | 0, _, _, _, _ => none
  | d + 1, mi, as, h, n => bif Nat.ble (lg_sl as).length mi.2.2.2.1 then ax_body iv prog (ax_call iv prog d) mi 5000 0 (lv_args 0 as) [] h n 0 0 else none
theorem ax_inv_in {prog : List ax_MI} {i : Instr} {pe : ax_PE} {st : List Value} {h : ax_H} {q : ax_MI × List Value × List Value} (hq : ax_inv prog i pe st h = some q) : q.1 ∈ prog := by
  cases i with
  | invokestatic idx =>
    cases e0 : pe.1 == 9 with
    | true => simp only [ax_inv, e0, cond_true] at hq; cases hq
    | false =>
      simp only [ax_inv, e0, cond_false] at hq
      split at hq
      · rename_i mi hmi
        split at hq
        · rename_i as rest hp
          cases e1 : Nat.ble (ax_sum rest) 8 with
          | false => rw [e1] at hq; cases hq
          | true => rw [e1] at hq; obtain rfl := Option.some.inj hq; exact List.mem_of_getElem? hmi
        · cases hq
      · cases hq
  | invokevirtual idx =>
    simp only [ax_inv] at hq
    split at hq
    · rename_i mi hmi
      split at hq
      · rename_i as k rest hp
        split at hq
        · rename_i ci fs hk
          cases e1 : (ci == pe.2.2.1 && Nat.ble (ax_sum rest) 8) with
          | false => rw [e1] at hq; cases hq
          | true => rw [e1] at hq; obtain rfl := Option.some.inj hq; exact List.mem_of_getElem? hmi
        · cases hq
      · cases hq
    · cases hq
  | invokespecial idx =>
    cases e0 : pe.1 == 8 with
    | true => simp only [ax_inv, e0, cond_true] at hq; cases hq
    | false =>
      simp only [ax_inv, e0, cond_false] at hq
      split at hq
      · rename_i mi hmi
        split at hq
        · rename_i as k rest hp
          cases e1 : Nat.ble (ax_sum rest) 8 with
          | false => rw [e1] at hq; cases hq
          | true => rw [e1] at hq; obtain rfl := Option.some.inj hq; exact List.mem_of_getElem? hmi
        · cases hq
      · cases hq
  | _ => cases hq
section AXR
variable {G : ax_T} {p : Program} {l : Launch} {e : Env} {R : Room} {s : State} {m : MethodId} {args : Array Value} {below : List Frame} {meth : Method} {c : Code} {Q : State → Prop} {own nm : String} {cc : ByteArray} {nL : Nat}
variable {pc : Nat} {lv : List (Nat × Value)} {st : List Value} {g : Nat → Option ax_C} {h : ax_H} {n cs ss mc ms : Nat} {iv : Nat → Int × Int}
theorem ax_ret_ok (M : ax_M G p s m args meth c own cc nL) {ret : Option FieldType} (hrt : meth.sig.returnType = ret) {i : Instr} {len : Nat} (hd : decode cc pc = .ok (i, len)) (hlen : ax_len i = 0 ∨ len = ax_len i) {r : Option Value} (h1 : ax_rets i st = some r) (h2 : ax_retT ret r = true) (hc : cs ≤ mc) (hs : ss ≤ ms) :
    ax_W G p l e R s m args below meth c (MQ below (ax_Qc G r g n) args s mc ms (fun q => G.2.1 ≤ q)) nL pc lv st g n cs ss := by
  intro ls H locs hl hR hL
  obtain ⟨hx, hb, hml, hown, hts, hlocks, hX⟩ := M
  refine W.widen hc hs ?_
  cases i with
  | ireturn =>
    obtain rfl : len = 1 := hlen.elim (fun q => absurd q (Nat.succ_ne_zero _)) (fun q => q)
    simp only [ax_rets] at h1
    split at h1
    · rename_i x
      cases h1
      cases ret with
      | none => cases h2
      | some ty =>
        cases ty with
        | int => exact W.iret hx hb hrt (fun t ht hW => ⟨rfl, by rw [ht]; exact hR⟩) hL hd hlocks
        | boolean =>
          refine W.zret hx hb hrt ?_ (fun t ht hW => ⟨rfl, by rw [ht]; exact hR⟩) hL hd hlocks
          simp only [ax_retT, Bool.or_eq_true, beq_iff_eq] at h2
          rcases h2 with rfl | rfl <;> decide
        | _ => cases h2
    · rename_i u
      cases h1
      cases ret with
      | none => cases h2
      | some ty =>
        cases ty with
        | int => exact W.iret hx hb hrt (fun t ht hW => ⟨rfl, by rw [ht]; exact hR⟩) hL hd hlocks
        | _ => cases h2
    · cases h1
  | lreturn =>
    obtain rfl : len = 1 := hlen.elim (fun q => absurd q (Nat.succ_ne_zero _)) (fun q => q)
    simp only [ax_rets] at h1
    split at h1
    · cases h1
      cases ret with
      | none => cases h2
      | some ty =>
        cases ty with
        | long => exact W.lret hx hb hrt (fun t ht hW => ⟨rfl, by rw [ht]; exact hR⟩) hL hd hlocks
        | _ => cases h2
    · cases h1
  | return_ =>
    obtain rfl : len = 1 := hlen.elim (fun q => absurd q (Nat.succ_ne_zero _)) (fun q => q)
    simp only [ax_rets] at h1
    split at h1
    · cases h1
      cases ret with
      | none => exact W.vret hx hb hrt (fun t ht hW => ⟨rfl, by rw [ht]; exact hR⟩) hL hd hlocks
      | some ty => cases ty <;> cases h2
    · cases h1
  | _ => cases h1
/-- what is checked of a program's table -/
def ax_Prog (prog : List ax_MI) : Prop := ∀ mi ∈ prog, ax_callee mi.2.1 mi.2.2.1 mi.2.2.2.1 mi.2.2.2.2.1 mi.2.2.2.2.2.1 ∧ mi.1 = mi.2.1.cls ∧ plainName mi.2.1.cls = true ∧ ∀ ch ∈ mi.2.2.2.2.2.2.2.2, ∀ en ∈ ch, ax_Ok prog mi.1 mi.2.1.name mi.2.2.1 en.1 en.2.1 en.2.2.1 en.2.2.2.1
theorem ax_inv_ok {prog : List ax_MI} (hprog : ax_Prog prog) {d : Nat} (M : ax_M G p s m args meth c own cc nL) {i : Instr} {len : Nat} {pe : ax_PE} (hok : ax_Ok prog own nm cc pc i len pe) {q : ax_MI × List Value × List Value} (hq : ax_inv prog i pe st h = some q) {o : ax_O}
    (hM : q.1 ∈ prog → ax_Met l G q.1.2.1 q.1.2.2.1 q.1.2.2.2.1 q.1.2.2.2.2.1 d q.2.1 (ax_hget h) n o.1 (ax_hget o.2.1) o.2.2 q.1.2.2.2.2.2.2.1 q.1.2.2.2.2.2.2.2.1)
    (hf : d + 1 ≤ R.frames) (hlo : 40 * (d + 1) ≤ R.locals) (hcs : cs + q.1.2.2.2.2.2.2.1 ≤ R.cells) (hss : ss + q.1.2.2.2.2.2.2.2.1 ≤ R.slots)
    (kk : ax_W G p l e R s m args below meth c Q nL (pc + 3) lv (o.1.toList ++ q.2.2) (ax_hget o.2.1) o.2.2 (cs + q.1.2.2.2.2.2.2.1) (ss + q.1.2.2.2.2.2.2.2.1)) (hret : q.1.2.2.2.2.1 = none → o.1 = none) : ax_W G p l e R s m args below meth c Q nL pc lv st (ax_hget h) n cs ss := by
  obtain ⟨hd, hlen, hw⟩ := hok
  cases i with
  | invokestatic idx =>
    obtain rfl : len = 3 := hlen.elim (fun q => absurd q (Nat.succ_ne_zero _)) (fun q => q)
    cases e0 : pe.1 == 9 with
    | true => simp only [ax_inv, e0, cond_true] at hq; cases hq
    | false =>
      have e0' : pe.1 ≠ 9 := by simpa using e0
      rcases hw with ⟨hw, -⟩ | ⟨-, mi, hmi, hst, hlk⟩
      · exact absurd hw e0'
      · have hin := List.mem_of_getElem? hmi
        simp only [ax_inv, e0, cond_false, hmi] at hq
        split at hq
        · rename_i as rest hp
          cases e1 : Nat.ble (ax_sum rest) 8 with
          | false => rw [e1] at hq; cases hq
          | true =>
            rw [e1] at hq
            obtain rfl := Option.some.inj hq
            obtain ⟨rfl, hn⟩ := ax_pop_ok hp
            exact ax_callS M (hM hin) (hprog _ hin).1 hst hlk hn hf hlo hcs hss (by simpa [Nat.ble_eq] using e1) hd kk
        · cases hq
  | invokevirtual idx =>
    obtain rfl : len = 3 := hlen.elim (fun q => absurd q (Nat.succ_ne_zero _)) (fun q => q)
    obtain ⟨mi, T, N, hmi, hc, hst, hse, hlk⟩ := hw
    have hin := List.mem_of_getElem? hmi
    simp only [ax_inv, hmi] at hq
    split at hq
    · rename_i as k rest hp
      split at hq
      · rename_i ci fs hk
        cases e1 : (ci == pe.2.2.1 && Nat.ble (ax_sum rest) 8) with
        | false => rw [e1] at hq; cases hq
        | true =>
          rw [e1] at hq
          obtain rfl := Option.some.inj hq
          obtain ⟨rfl, hn⟩ := ax_pop_ok hp
          simp only [Bool.and_eq_true, beq_iff_eq, Nat.ble_eq] at e1
          obtain ⟨rfl, e2⟩ := e1
          exact ax_callV M (ax_get_of hk) hc (hM hin) (hprog _ hin).1 hst hse hlk hn hf hlo hcs hss e2 hd kk
      · cases hq
    · cases hq
  | invokespecial idx =>
    obtain rfl : len = 3 := hlen.elim (fun q => absurd q (Nat.succ_ne_zero _)) (fun q => q)
    cases e0 : pe.1 == 8 with
    | true => simp only [ax_inv, e0, cond_true] at hq; cases hq
    | false =>
      have e0' : pe.1 ≠ 8 := by simpa using e0
      rcases hw with ⟨hw, -⟩ | ⟨-, mi, hmi, hnm, hrt, hst, hlk⟩
      · exact absurd hw e0'
      · have hin := List.mem_of_getElem? hmi
        simp only [ax_inv, e0, cond_false, hmi] at hq
        split at hq
        · rename_i as k rest hp
          cases e1 : Nat.ble (ax_sum rest) 8 with
          | false => rw [e1] at hq; cases hq
          | true =>
            rw [e1] at hq
            obtain rfl := Option.some.inj hq
            obtain ⟨rfl, hn⟩ := ax_pop_ok hp
            have ho : o.1 = none := hret hrt
            have hM' := hM hin
            have hy := (hprog _ hin).1
            rw [ho] at hM' kk
            rw [hrt] at hM' hy
            exact ax_callI M hM' hy hst hnm hlk hn hf hlo hcs hss (by simpa [Nat.ble_eq] using e1) hd kk
        · cases hq
  | _ => cases hq
theorem ax_body_ok {prog : List ax_MI} (hprog : ax_Prog prog) {mi : ax_MI} (hmi : mi ∈ prog) {d : Nat} {callee : ax_MI → List Value → ax_H → Nat → Option ax_O}
    (hcal : ∀ (q : ax_MI) (as : List Value) (h : ax_H) (n : Nat) (o : ax_O), q ∈ prog → callee q as h n = some o → ax_Met l G q.2.1 q.2.2.1 q.2.2.2.1 q.2.2.2.2.1 d as (ax_hget h) n o.1 (ax_hget o.2.1) o.2.2 q.2.2.2.2.2.2.1 q.2.2.2.2.2.2.2.1 ∧ (q.2.2.2.2.1 = none → o.1 = none))
    (M : ax_M G p s m args meth c mi.1 mi.2.2.1 mi.2.2.2.1) (hnm : meth.name = mi.2.1.name) (hrt : meth.sig.returnType = mi.2.2.2.2.1) (hρ : ∀ u, (iv u).1 ≤ (G.2.2.2.1 u).toInt ∧ (G.2.2.2.1 u).toInt ≤ (iv u).2)
    (hR : R = ax_rm (d + 1) mi.2.2.2.2.2.2.1 mi.2.2.2.2.2.2.2.1) :
    ∀ (f pc : Nat) (lv : List (Nat × Value)) (st : List Value) (h : ax_H) (n cs ss : Nat) (o : ax_O), ax_body iv prog callee mi f pc lv st h n cs ss = some o → cs ≤ mi.2.2.2.2.2.2.1 → ss ≤ mi.2.2.2.2.2.2.2.1 →
      ax_W G p l e R s m args below meth c (MQ below (ax_Qc G o.1 (ax_hget o.2.1) o.2.2) args s mi.2.2.2.2.2.2.1 mi.2.2.2.2.2.2.2.1 (fun q => G.2.1 ≤ q)) mi.2.2.2.1 pc lv st (ax_hget h) n cs ss := by
  intro f
  induction f with
  | zero => intro pc lv st h n cs ss o ho; cases ho
  | succ f ih =>
    intro pc lv st h n cs ss o ho hcs hss
    rw [ax_body] at ho
    cases ea : ax_at mi.2.2.2.2.2.2.2.2 pc with
    | none => rw [ea] at ho; cases ho
    | some en =>
      simp only [ea] at ho
      obtain ⟨hpc, ch, hch, hen⟩ := ax_at_ok ea
      have hok := (hprog mi hmi).2.2.2 ch hch en hen
      rw [hpc] at hok
      cases er : ax_rets en.2.1 st with
      | some r =>
        simp only [er] at ho
        cases et : ax_retT mi.2.2.2.2.1 r with
        | false => rw [et] at ho; cases ho
        | true =>
          rw [et] at ho
          obtain rfl := Option.some.inj ho
          exact ax_ret_ok M hrt hok.1 hok.2.1 er et hcs hss
      | none =>
        simp only [er] at ho
        cases ei : ax_inv prog en.2.1 en.2.2.2.1 st h with
        | some q =>
          simp only [ei] at ho
          cases eb : (Nat.ble (cs + q.1.2.2.2.2.2.2.1) mi.2.2.2.2.2.2.1 && Nat.ble (ss + q.1.2.2.2.2.2.2.2.1) mi.2.2.2.2.2.2.2.1) with
          | false => rw [eb] at ho; cases ho
          | true =>
            rw [eb] at ho
            simp only [cond_true] at ho
            simp only [Bool.and_eq_true, Nat.ble_eq] at eb
            cases ec : callee q.1 q.2.1 h n with
            | none => rw [ec] at ho; cases ho
            | some o1 =>
              simp only [ec] at ho
              have hin : q.1 ∈ prog := ax_inv_in ei
              obtain ⟨hM, hn1⟩ := hcal q.1 q.2.1 h n o1 hin ec
              refine ax_inv_ok hprog M hok ei (fun _ => hM) ?_ ?_ ?_ ?_ (ih _ _ _ _ _ _ _ o ho eb.1 eb.2) hn1
              · rw [hR]; exact Nat.le_refl _
              · rw [hR]; exact Nat.le_refl _
              · rw [hR]; exact eb.1
              · rw [hR]; exact eb.2
        | none =>
          simp only [ei] at ho
          cases es : ax_step iv mi.2.2.2.1 en.2.1 en.2.2.2.1 pc lv st h n cs ss with
          | none => rw [es] at ho; cases ho
          | some F =>
            simp only [es] at ho
            cases eb : (Nat.ble F.2.2.2.2.2.1 mi.2.2.2.2.2.2.1 && Nat.ble F.2.2.2.2.2.2 mi.2.2.2.2.2.2.2.1) with
            | false => rw [eb] at ho; cases ho
            | true =>
              rw [eb] at ho
              simp only [cond_true] at ho
              simp only [Bool.and_eq_true, Nat.ble_eq] at eb
              refine ax_step_ok M hnm hρ hok es ?_ (ih _ _ _ _ _ _ _ o ho eb.1 eb.2)
              rw [hR]
              exact ⟨eb.1, eb.2, Nat.le_add_left 1 d, by show 40 ≤ 40 * (d + 1); omega⟩
theorem ax_body_ret {prog : List ax_MI} {mi : ax_MI} {callee : ax_MI → List Value → ax_H → Nat → Option ax_O} : ∀ (f pc : Nat) (lv : List (Nat × Value)) (st : List Value) (h : ax_H) (n cs ss : Nat) (o : ax_O), ax_body iv prog callee mi f pc lv st h n cs ss = some o → ax_retT mi.2.2.2.2.1 o.1 = true := by
  intro f
  induction f with
  | zero => intro pc lv st h n cs ss o ho; cases ho
  | succ f ih =>
    intro pc lv st h n cs ss o ho
    rw [ax_body] at ho
    cases ea : ax_at mi.2.2.2.2.2.2.2.2 pc with
    | none => rw [ea] at ho; cases ho
    | some en =>
      simp only [ea] at ho
      cases er : ax_rets en.2.1 st with
      | some r =>
        simp only [er] at ho
        cases et : ax_retT mi.2.2.2.2.1 r with
        | false => rw [et] at ho; cases ho
        | true => rw [et] at ho; obtain rfl := Option.some.inj ho; exact et
      | none =>
        simp only [er] at ho
        cases ei : ax_inv prog en.2.1 en.2.2.2.1 st h with
        | some q =>
          simp only [ei] at ho
          cases eb : (Nat.ble (cs + q.1.2.2.2.2.2.2.1) mi.2.2.2.2.2.2.1 && Nat.ble (ss + q.1.2.2.2.2.2.2.2.1) mi.2.2.2.2.2.2.2.1) with
          | false => rw [eb] at ho; cases ho
          | true =>
            rw [eb] at ho
            simp only [cond_true] at ho
            cases ec : callee q.1 q.2.1 h n with
            | none => rw [ec] at ho; cases ho
            | some o1 => simp only [ec] at ho; exact ih _ _ _ _ _ _ _ o ho
        | none =>
          simp only [ei] at ho
          cases es : ax_step iv mi.2.2.2.1 en.2.1 en.2.2.2.1 pc lv st h n cs ss with
          | none => rw [es] at ho; cases ho
          | some F =>
            simp only [es] at ho
            cases eb : (Nat.ble F.2.2.2.2.2.1 mi.2.2.2.2.2.2.1 && Nat.ble F.2.2.2.2.2.2 mi.2.2.2.2.2.2.2.1) with
            | false => rw [eb] at ho; cases ho
            | true => rw [eb] at ho; exact ih _ _ _ _ _ _ _ o ho
theorem ax_sl_len (G : ax_T) (as : List Value) : (lg_sl (as.map (ax_v G))).length = (lg_sl as).length := by
  induction as with
  | nil => rfl
  | cons v vs ih =>
    simp only [lg_sl, List.map_cons, List.flatMap_cons, List.length_append, ax_cat] at ih ⊢
    rw [ih]
    split <;> rfl
theorem ax_args_map (G : ax_T) (as : List Value) : ∀ j : Nat, lv_args j (as.map (ax_v G)) = (lv_args j as).map fun q => (q.1, ax_v G q.2) := by
  induction as with
  | nil => intro j; rfl
  | cons v vs ih =>
    intro j
    simp only [List.map_cons, lv_args, ax_cat]
    rw [ih]
/-- what a run answers, the method answers -/
theorem ax_call_ok {prog : List ax_MI} (hprog : ax_Prog prog) (hρ : ∀ u, (iv u).1 ≤ (G.2.2.2.1 u).toInt ∧ (G.2.2.2.1 u).toInt ≤ (iv u).2) : ∀ (d : Nat) (mi : ax_MI) (as : List Value) (h : ax_H) (n : Nat) (o : ax_O), mi ∈ prog → ax_call iv prog d mi as h n = some o →
    ax_Met l G mi.2.1 mi.2.2.1 mi.2.2.2.1 mi.2.2.2.2.1 d as (ax_hget h) n o.1 (ax_hget o.2.1) o.2.2 mi.2.2.2.2.2.2.1 mi.2.2.2.2.2.2.2.1 ∧ (mi.2.2.2.2.1 = none → o.1 = none) := by
  intro d
  induction d with
  | zero => intro mi as h n o _ ho; cases ho
  | succ d ih =>
    intro mi as h n o hmi ho
    rw [ax_call] at ho
    cases el : Nat.ble (lg_sl as).length mi.2.2.2.1 with
    | false => rw [el] at ho; cases ho
    | true =>
      rw [el] at ho
      simp only [cond_true] at ho
      have hlen : (lg_sl (as.map (ax_v G))).length ≤ mi.2.2.2.1 := by rw [ax_sl_len]; simpa [Nat.ble_eq] using el
      obtain ⟨hcal, hcls, hplain, -⟩ := hprog mi hmi
      refine ⟨?_, fun hn => ?_⟩
      · unfold ax_Met
        refine Met.ofW (cc := mi.2.2.1) (maxL := mi.2.2.2.1) (ret := mi.2.2.2.2.1) hplain rfl ?_
        intro p e s m args below meth c s₁ B hml hv
        obtain ⟨rfl, hX, hRel⟩ := hv
        have hts := atoms_spec (ws := Cond.code mi.2.1 mi.2.2.1 mi.2.2.2.1 mi.2.2.2.2.1 :: ax_G) B.pre
        have hown : s.vm.findClass mi.2.1.cls = some m.cls := findClass_of_methodNamed B.named
        have M : ax_M G p s m (as.map (ax_v G)).toArray meth c mi.1 mi.2.2.1 mi.2.2.2.1 := ⟨B.exec, B.bytes, hml, by rw [hcls]; exact hown, fun w hw => hts w (List.mem_cons_of_mem _ hw), B.notSynchronized, hX⟩
        have hl := lv_entry (as.map (ax_v G)) (n := mi.2.2.2.1) hlen
        rw [lg_entry_eq]
        rw [ax_args_map] at hl
        exact ax_body_ok hprog hmi (fun q as h n o hq hc => ih q as h n o hq hc) M (name_of_methodNamed B.named B.method).1 B.returns hρ rfl 5000 0 _ [] h n 0 0 o ho (Nat.zero_le _) (Nat.zero_le _) _ s.heap [] hl hRel (fun q hq => by cases hq)
      · have := ax_body_ret _ _ _ _ _ _ _ _ o ho
        rw [hn] at this
        cases e1 : o.1 with
        | none => rfl
        | some v => rw [e1] at this; cases this
end AXR
end
section
/-! ===== the law's own body, run likewise: the script is .retAddr 2 ===== -/
/-- one step of the law: sc what the script's places hold, L its length, opv the first masked by 63 -/
def ax_stepL (iv : Nat → Int × Int) (L : Nat) (sc : Nat → Value) (opv : Value) (i : Instr) (pe : ax_PE) (pc : Nat) (lv : List (Nat × Value)) (st : List Value) (h : ax_H) (n cs ss : Nat) : Option ax_F := match i with
  | .arraylength => match st with
    | .retAddr 2 :: st => some (pc + 1, lv, .int (Int32.ofNat L) :: st, h, n, cs, ss)
    | _ => none
  | .iaload => match st with
    | .int k :: .retAddr 2 :: st => bif ax_inB k L then some (pc + 1, lv, sc k.toNatClampNeg :: st, h, n, cs, ss) else none
    | _ => none
  | .iand => match st with
    | .int k :: v :: st => bif decide (k = 63) && decide (v = sc 0) then some (pc + 1, lv, opv :: st, h, n, cs, ss) else none
    | _ => none
  | .lcmp => match st with
    | .long y :: .long x :: st => some (pc + 1, lv, .int (lg_cmp x y) :: st, h, n, cs, ss)
    | _ => none
  | i => ax_step iv 4 i pe pc lv st h n cs ss
/-- runs on to a pc, by a given step -/
def ax_lgo (iv : Nat → Int × Int) (prog : List ax_MI) (stp : Instr → ax_PE → Nat → List (Nat × Value) → List Value → ax_H → Nat → Nat → Nat → Option ax_F) (tab : List (List ax_EN)) (stop : Nat) : Nat → Nat → List (Nat × Value) → List Value → ax_H → Nat → Nat → Nat → Option ax_F
  | 0, _, _, _, _, _, _, _ => none
  | f + 1, pc, lv, st, h, n, cs, ss => bif Nat.beq pc stop then some (pc, lv, st, h, n, cs, ss) else match ax_at tab pc with
    | none => none
    | some e => match ax_inv prog e.2.1 e.2.2.2.1 st h with
      | some q => bif Nat.ble (cs + q.1.2.2.2.2.2.2.1) 600000 && Nat.ble (ss + q.1.2.2.2.2.2.2.2.1) 7302250 then (match ax_call iv prog 20 q.1 q.2.1 h n with
          | some o => ax_lgo iv prog stp tab stop f (pc + 3) lv (o.1.toList ++ q.2.2) o.2.1 o.2.2 (cs + q.1.2.2.2.2.2.2.1) (ss + q.1.2.2.2.2.2.2.2.1)
          | none => none) else none
      | none => match stp e.2.1 e.2.2.2.1 pc lv st h n cs ss with
        | some F => bif Nat.ble F.2.2.2.2.2.1 600000 && Nat.ble F.2.2.2.2.2.2 7302250 then ax_lgo iv prog stp tab stop f F.1 F.2.1 F.2.2.1 F.2.2.2.1 F.2.2.2.2.1 F.2.2.2.2.2.1 F.2.2.2.2.2.2 else none
        | none => none
section AXL
variable {G : ax_T} {p : Program} {l : Launch} {e : Env} {s : State} {m : MethodId} {args : Array Value} {below : List Frame} {meth : Method} {c : Code} {Q : State → Prop} {own nm : String} {cc : ByteArray}
variable {pc : Nat} {lv : List (Nat × Value)} {st : List Value} {h : ax_H} {n cs ss : Nat} {iv : Nat → Int × Int} {pe : ax_PE} {F : ax_F} {b L : Nat} {xs : Nat → Int32} {sc : Nat → Value} {opv : Value}
/-- the script, among the cells below B -/
theorem ax_scr {H : Heap} {g : Nat → Option ax_C} (hX : va_X b L xs s G.2.2.1) (hb : b < G.2.1) (hR : ax_R G g n H) : va_X b L xs s H := hX.kept (hR.2.2 b hb)
theorem ax_scr_len {ls : Array Slot} {H : Heap} {locs : List Loc} {R : Room} {rest : List Value} (hx : p.tables.exec = Jvm.exec) (hbb : c.code = cc) (hX : va_X b L xs s H) (hd : decode cc pc = .ok (.arraylength, 1))
    (kk : W p l e R s m args below meth c H locs cs ss Q (F0 m (pc + 1) ls (.int (Int32.ofNat L) :: rest))) : W p l e R s m args below meth c H locs cs ss Q (F0 m pc ls (.ref b :: rest)) := by
  obtain ⟨scr, h1, h2, h3, h4, h5⟩ := hX
  exact W.alen (n := Int32.ofNat L) hx hbb h1 h2 (by rw [h4] <;> rfl) rfl rfl hd kk
theorem ax_scr_at {ls : Array Slot} {H : Heap} {locs : List Loc} {R : Room} {rest : List Value} (hx : p.tables.exec = Jvm.exec) (hbb : c.code = cc) (hX : va_X b L xs s H) {i : Int32} (hin : vp_in i L) (hd : decode cc pc = .ok (.iaload, 1))
    (kk : W p l e R s m args below meth c H locs cs ss Q (F0 m (pc + 1) ls (.int (xs i.toNatClampNeg) :: rest))) : W p l e R s m args below meth c H locs cs ss Q (F0 m pc ls (.int i :: .ref b :: rest)) := by
  obtain ⟨scr, h1, h2, h3, h4, h5⟩ := hX
  have hlt : i.toNatClampNeg < L := Nat.not_le.mp fun q => hin (Or.inr q)
  exact W.iald (v := .int (xs i.toNatClampNeg)) hx hbb h1 h2 h3 (by rw [h4]; exact hin) (h5 _ hlt) rfl rfl hd kk
theorem ax_stepL_ok {prog : List ax_MI} {R : Room} (M : ax_M G p s m args meth c own cc 4) (hnm : meth.name = nm) (hρ : ∀ u, (iv u).1 ≤ (G.2.2.2.1 u).toInt ∧ (G.2.2.2.1 u).toInt ≤ (iv u).2)
    (hX : va_X b L xs s G.2.2.1) (hbB : b < G.2.1) (hso : G.2.2.2.2.1 2 = b) (hsc : ∀ j, ax_v G (sc j) = .int (xs j)) (hop : ax_v G opv = .int (xs 0 &&& 63))
    {i : Instr} {len : Nat} (hok : ax_Ok prog own nm cc pc i len pe) (hs : ax_stepL iv L sc opv i pe pc lv st h n cs ss = some F) (hr : F.2.2.2.2.2.1 ≤ R.cells ∧ F.2.2.2.2.2.2 ≤ R.slots ∧ 1 ≤ R.frames ∧ 40 ≤ R.locals)
    (kk : ax_WF G p l e R s m args below meth c Q 4 F) : ax_W G p l e R s m args below meth c Q 4 pc lv st (ax_hget h) n cs ss := by
  obtain ⟨hx, hb, hml, hown, hts, hlocks, hXX⟩ := id M
  cases i with
  | arraylength =>
    obtain ⟨hd, hlen, hw⟩ := hok
    obtain rfl : len = 1 := hlen.elim (fun q => absurd q (Nat.succ_ne_zero _)) (fun q => q)
    simp only [ax_stepL] at hs
    split at hs
    · obtain rfl := Option.some.inj hs
      intro ls H locs hl hR hL
      have hv : ax_v G (.retAddr 2) = .ref b := by show Value.ref _ = _; rw [hso]
      simp only [List.map_cons, hv]
      exact ax_scr_len hx hb (ax_scr hX hbB hR) hd (kk ls H locs hl hR hL)
    · cases hs
  | iaload =>
    obtain ⟨hd, hlen, hw⟩ := hok
    obtain rfl : len = 1 := hlen.elim (fun q => absurd q (Nat.succ_ne_zero _)) (fun q => q)
    simp only [ax_stepL] at hs
    split at hs
    · rename_i k st'
      cases e1 : ax_inB k L with
      | false => simp only [e1, cond_false] at hs; cases hs
      | true =>
        simp only [e1, cond_true] at hs
        obtain rfl := Option.some.inj hs
        intro ls H locs hl hR hL
        have hv : ax_v G (.retAddr 2) = .ref b := by show Value.ref _ = _; rw [hso]
        have hin := ax_inB_ok e1
        have hk := kk ls H locs hl hR hL
        simp only [List.map_cons, hsc] at hk
        simp only [List.map_cons, hv]
        exact ax_scr_at hx hb (ax_scr hX hbB hR) hin hd hk
    · cases hs
  | iand =>
    obtain ⟨hd, hlen, hw⟩ := hok
    obtain rfl : len = 1 := hlen.elim (fun q => absurd q (Nat.succ_ne_zero _)) (fun q => q)
    simp only [ax_stepL] at hs
    split at hs
    · rename_i k v st'
      cases e1 : (decide (k = 63) && decide (v = sc 0)) with
      | false => simp only [e1, cond_false] at hs; cases hs
      | true =>
        simp only [e1, cond_true] at hs
        obtain rfl := Option.some.inj hs
        simp only [Bool.and_eq_true, decide_eq_true_eq] at e1
        obtain ⟨rfl, rfl⟩ := e1
        intro ls H locs hl hR hL
        have hk := kk ls H locs hl hR hL
        simp only [List.map_cons, hop] at hk
        simp only [List.map_cons, hsc]
        exact lv_iand hx hb hd hk
    · cases hs
  | lcmp =>
    obtain ⟨hd, hlen, hw⟩ := hok
    obtain rfl : len = 1 := hlen.elim (fun q => absurd q (Nat.succ_ne_zero _)) (fun q => q)
    simp only [ax_stepL] at hs
    split at hs
    · obtain rfl := Option.some.inj hs
      exact fun ls H locs hl hR hL => W.lcmp hx hb hd (kk ls H locs hl hR hL)
    · cases hs
  | _ => exact ax_step_ok M hnm hρ hok hs hr kk
theorem ax_lgo_ok {prog : List ax_MI} (hprog : ax_Prog prog) {tab : List (List ax_EN)} (htab : ∀ ch ∈ tab, ∀ en ∈ ch, ax_Ok prog own nm cc en.1 en.2.1 en.2.2.1 en.2.2.2.1) (M : ax_M G p s m args meth c own cc 4) (hρ : ∀ u, (iv u).1 ≤ (G.2.2.2.1 u).toInt ∧ (G.2.2.2.1 u).toInt ≤ (iv u).2)
    {stp : Instr → ax_PE → Nat → List (Nat × Value) → List Value → ax_H → Nat → Nat → Nat → Option ax_F}
    (hstp : ∀ (i : Instr) (len : Nat) (pe : ax_PE) (pc : Nat) (lv : List (Nat × Value)) (st : List Value) (h : ax_H) (n cs ss : Nat) (F : ax_F), ax_Ok prog own nm cc pc i len pe → stp i pe pc lv st h n cs ss = some F → F.2.2.2.2.2.1 ≤ room_1.cells ∧ F.2.2.2.2.2.2 ≤ room_1.slots ∧ 1 ≤ room_1.frames ∧ 40 ≤ room_1.locals → ax_WF G p l e room_1 s m args below meth c Q 4 F → ax_W G p l e room_1 s m args below meth c Q 4 pc lv st (ax_hget h) n cs ss) {stop : Nat} :
    ∀ (f pc : Nat) (lv : List (Nat × Value)) (st : List Value) (h : ax_H) (n cs ss : Nat) (F : ax_F), ax_lgo iv prog stp tab stop f pc lv st h n cs ss = some F → ax_WF G p l e room_1 s m args below meth c Q 4 F → ax_W G p l e room_1 s m args below meth c Q 4 pc lv st (ax_hget h) n cs ss := by
  intro f
  induction f with
  | zero => intro pc lv st h n cs ss F ho; cases ho
  | succ f ih =>
    intro pc lv st h n cs ss F ho kk
    rw [ax_lgo] at ho
    cases es : Nat.beq pc stop with
    | true =>
      rw [es] at ho
      obtain rfl := Option.some.inj ho
      exact kk
    | false =>
      rw [es] at ho
      simp only [cond_false] at ho
      cases ea : ax_at tab pc with
      | none => rw [ea] at ho; cases ho
      | some en =>
        simp only [ea] at ho
        obtain ⟨hpc, ch, hch, hen⟩ := ax_at_ok ea
        have hok := htab ch hch en hen
        rw [hpc] at hok
        cases ei : ax_inv prog en.2.1 en.2.2.2.1 st h with
        | some q =>
          simp only [ei] at ho
          cases eb : (Nat.ble (cs + q.1.2.2.2.2.2.2.1) 600000 && Nat.ble (ss + q.1.2.2.2.2.2.2.2.1) 7302250) with
          | false => rw [eb] at ho; cases ho
          | true =>
            rw [eb] at ho
            simp only [cond_true] at ho
            simp only [Bool.and_eq_true, Nat.ble_eq] at eb
            cases ec : ax_call iv prog 20 q.1 q.2.1 h n with
            | none => rw [ec] at ho; cases ho
            | some o1 =>
              simp only [ec] at ho
              obtain ⟨hM, hn1⟩ := ax_call_ok (l := l) (G := G) hprog hρ 20 q.1 q.2.1 h n o1 (ax_inv_in ei) ec
              exact ax_inv_ok hprog M hok ei (fun _ => hM) (Nat.le_of_ble_eq_true rfl) (Nat.le_of_ble_eq_true rfl) eb.1 eb.2 (ih _ _ _ _ _ _ _ F ho kk) hn1
        | none =>
          simp only [ei] at ho
          cases et : stp en.2.1 en.2.2.2.1 pc lv st h n cs ss with
          | none => rw [et] at ho; cases ho
          | some F1 =>
            simp only [et] at ho
            cases eb : (Nat.ble F1.2.2.2.2.2.1 600000 && Nat.ble F1.2.2.2.2.2.2 7302250) with
            | false => rw [eb] at ho; cases ho
            | true =>
              rw [eb] at ho
              simp only [cond_true] at ho
              simp only [Bool.and_eq_true, Nat.ble_eq] at eb
              exact hstp _ _ _ _ _ _ _ _ _ _ _ hok et ⟨eb.1, eb.2, Nat.le_of_ble_eq_true rfl, Nat.le_of_ble_eq_true rfl⟩ (ih _ _ _ _ _ _ _ F ho kk)
end AXL
end
section
/-! ===== a table of instructions, checked by the kernel ===== -/
def ax_has (j : Nat) (w : Cond) : Bool := decide (lw_tbl[j]? = some w) && goodWord w
theorem ax_has_ok {j : Nat} {w : Cond} (h : ax_has j w = true) : w ∈ ax_G := by
  simp only [ax_has, Bool.and_eq_true, decide_eq_true_eq] at h
  exact ax_G_in (List.mem_of_getElem? h.1) h.2
def ax_hasN (j : Nat) (w : Cond) : Bool := decide (lw_tbl[j]? = some w)
theorem ax_hasN_ok {j : Nat} {w : Cond} (h : ax_hasN j w = true) : w ∈ lw_tbl := List.mem_of_getElem? (of_decide_eq_true h)
def ax_lnk (plain : Bool) (j : Nat) (w wn : Cond) : Bool := bif plain then ax_has j w else ax_hasN j wn
theorem ax_lnkF_ok {b : Bool} {j idx : Nat} {own a1 a2 a3 host : String} (h : ax_lnk b j (.fieldLink own idx a1 a2 a3) (.fieldLinkNest own idx a1 a2 a3 host) = true) : Cond.fieldLink own idx a1 a2 a3 ∈ ax_G ∨ ∃ host, Cond.fieldLinkNest own idx a1 a2 a3 host ∈ lw_tbl := by
  cases b with
  | true => exact Or.inl (ax_has_ok h)
  | false => exact Or.inr ⟨host, ax_hasN_ok h⟩
theorem ax_lnkM_ok {b : Bool} {j idx : Nat} {own host : String} {y : MethodName} (h : ax_lnk b j (.methodLink own idx y) (.methodLinkNest own idx y host) = true) : Cond.methodLink own idx y ∈ ax_G ∨ ∃ host, Cond.methodLinkNest own idx y host ∈ lw_tbl := by
  cases b with
  | true => exact Or.inl (ax_has_ok h)
  | false => exact Or.inr ⟨host, ax_hasN_ok h⟩
def ax_chkW (prog : List ax_MI) (own nm : String) (i : Instr) (pe : ax_PE) (hs : List Nat) : Bool := match i with
  | .getfield idx => match ax_cl[pe.2.1]? with
    | some q => Nat.blt pe.2.2.1 q.2.2 && ax_lnk (pe.1 == 0) (hs.getD 0 0) (.fieldLink own idx (q.2.1 pe.2.2.1).1 (q.2.1 pe.2.2.1).2.1 (q.2.1 pe.2.2.1).2.2.1) (.fieldLinkNest own idx (q.2.1 pe.2.2.1).1 (q.2.1 pe.2.2.1).2.1 (q.2.1 pe.2.2.1).2.2.1 "LetterSums")
    | none => false
  | .putfield idx => match ax_cl[pe.2.1]? with
    | some q => Nat.blt pe.2.2.1 q.2.2 && (bif (q.2.1 pe.2.2.1).2.2.2 then ax_has (hs.getD 0 0) (.fieldLink own idx (q.2.1 pe.2.2.1).1 (q.2.1 pe.2.2.1).2.1 (q.2.1 pe.2.2.1).2.2.1) && (decide (nm = "<init>") && decide ((q.2.1 pe.2.2.1).1 = own))
        else ax_lnk (pe.1 == 0) (hs.getD 0 0) (.fieldLink own idx (q.2.1 pe.2.2.1).1 (q.2.1 pe.2.2.1).2.1 (q.2.1 pe.2.2.1).2.2.1) (.fieldLinkNest own idx (q.2.1 pe.2.2.1).1 (q.2.1 pe.2.2.1).2.1 (q.2.1 pe.2.2.1).2.2.1 "LetterSums"))
    | none => false
  | .getstatic idx => match ax_st[pe.2.1]? with
    | some z => ax_lnk (pe.1 == 0) (hs.getD 0 0) (.fieldLink own idx z.1 z.2.1 "[I") (.fieldLinkNest own idx z.1 z.2.1 "[I" "LetterSums")
    | none => false
  | .new idx => match ax_cl[pe.2.1]? with
    | some q => decide (q.2.2 = pe.2.2.1) && (ax_has (hs.getD 0 0) (.classLink own idx q.1) && (ax_has (hs.getD 1 0) (.instantiable q.1 pe.2.2.1) && (ax_has (hs.getD 2 0) (.initialized q.1) && ax_nofl pe.2.1 pe.2.2.1)))
    | none => false
  | .newarray a => ax_has (hs.getD 0 0) (.arrayClass (newarray.typeOf a)) && (decide (ax_tn[pe.2.1]? = some (newarray.typeOf a)) && (decide (a = .int) || decide (a = .byte)))
  | .anewarray idx => match ax_tc pe.2.1 with
    | some q => ax_has (hs.getD 0 0) (.classLink own idx q.2)
    | none => false
  | .ldc idx => ax_has (hs.getD 0 0) (.constant own idx (Int32.ofInt pe.2.2.2))
  | .ldc_w idx => ax_has (hs.getD 0 0) (.constant own idx (Int32.ofInt pe.2.2.2))
  | .ldc2_w idx => ax_has (hs.getD 0 0) (.constantLong own idx (Int64.ofInt pe.2.2.2))
  | .invokestatic idx => bif pe.1 == 9 then ax_has (hs.getD 0 0) (.methodLink own idx Lib.Math.min.name) && (ax_has (hs.getD 1 0) (.static Lib.Math.min.name) && (ax_has (hs.getD 2 0) (.initialized "java/lang/Math") && ax_has (hs.getD 3 0) (.code Lib.Math.min.name Lib.Math.min.code 2 (some .int))))
      else match prog[pe.2.1]? with
        | some mi => ax_has (hs.getD 0 0) (.static mi.2.1) && ax_lnk (pe.1 == 3) (hs.getD 1 0) (.methodLink own idx mi.2.1) (.methodLinkNest own idx mi.2.1 "LetterSums")
        | none => false
  | .invokevirtual idx => match prog[pe.2.1]?, ax_cl[pe.2.2.1]? with
    | some mi, some q => decide (q.1 = mi.2.1.cls) && (ax_has (hs.getD 0 0) (.instanceMethod mi.2.1) && (ax_has (hs.getD 1 0) (.selects mi.2.1.cls mi.2.1 mi.2.1) && ax_lnk (pe.1 == 3) (hs.getD 2 0) (.methodLink own idx mi.2.1) (.methodLinkNest own idx mi.2.1 "LetterSums")))
    | _, _ => false
  | .invokespecial idx => bif pe.1 == 8 then ax_has (hs.getD 0 0) (.methodLink own idx objectInit) && (ax_has (hs.getD 1 0) (.instanceMethod objectInit) && ax_has (hs.getD 2 0) (.code objectInit ⟨#[0xb1]⟩ 1 none))
      else match prog[pe.2.1]? with
        | some mi => decide (mi.2.1.name = "<init>") && (decide (mi.2.2.2.2.1 = none) && (ax_has (hs.getD 0 0) (.instanceMethod mi.2.1) && ax_lnk (pe.1 == 3) (hs.getD 1 0) (.methodLink own idx mi.2.1) (.methodLinkNest own idx mi.2.1 "LetterSums")))
        | none => false
  | _ => true
theorem ax_chkW_ok {prog : List ax_MI} {own nm : String} {i : Instr} {pe : ax_PE} {hs : List Nat} (h : ax_chkW prog own nm i pe hs = true) : ax_OkW prog own nm i pe := by
  cases i with
  | getfield idx =>
    simp only [ax_chkW] at h
    split at h
    · rename_i q hq
      simp only [Bool.and_eq_true, Nat.blt_eq] at h
      exact ⟨q.1, q.2.1, q.2.2, hq, h.1, ax_lnkF_ok h.2⟩
    · cases h
  | putfield idx =>
    simp only [ax_chkW] at h
    split at h
    · rename_i q hq
      simp only [Bool.and_eq_true, Nat.blt_eq] at h
      refine ⟨q.1, q.2.1, q.2.2, hq, h.1, ?_⟩
      have h2 := h.2
      cases e1 : (q.2.1 pe.2.2.1).2.2.2 with
      | true =>
        rw [e1] at h2
        simp only [cond_true, Bool.and_eq_true, decide_eq_true_eq] at h2
        exact Or.inr ⟨rfl, ax_has_ok h2.1, h2.2.1, h2.2.2⟩
      | false =>
        rw [e1] at h2
        exact Or.inl ⟨rfl, ax_lnkF_ok h2⟩
    · cases h
  | getstatic idx =>
    simp only [ax_chkW] at h
    split at h
    · rename_i z hz
      exact ⟨z, hz, ax_lnkF_ok h⟩
    · cases h
  | new idx =>
    simp only [ax_chkW] at h
    split at h
    · rename_i q hq
      simp only [Bool.and_eq_true, decide_eq_true_eq] at h
      obtain ⟨h1, h2, h3, h4, h5⟩ := h
      refine ⟨q.1, q.2.1, ?_, ax_has_ok h2, ax_has_ok h3, ax_has_ok h4, h5⟩
      rw [hq, ← h1]
    · cases h
  | newarray a =>
    simp only [ax_chkW, Bool.and_eq_true, Bool.or_eq_true, decide_eq_true_eq] at h
    exact ⟨ax_has_ok h.1, h.2.1, h.2.2⟩
  | anewarray idx =>
    simp only [ax_chkW] at h
    split at h
    · rename_i q hq
      refine ⟨q.2, ax_has_ok h, (ax_tc_ok (ci := q.1) hq).1, ?_⟩
      unfold ax_tc at hq
      split at hq
      · cases hq; exact Or.inl rfl
      · cases hq; exact Or.inr (Or.inl rfl)
      · cases hq; exact Or.inr (Or.inr rfl)
      · cases hq
    · cases h
  | ldc idx => exact ax_has_ok h
  | ldc_w idx => exact ax_has_ok h
  | ldc2_w idx => exact ax_has_ok h
  | invokestatic idx =>
    simp only [ax_chkW] at h
    cases e0 : pe.1 == 9 with
    | true =>
      simp only [e0, cond_true, Bool.and_eq_true] at h
      obtain ⟨h1, h2, h3, h4⟩ := h
      exact Or.inl ⟨by simpa using e0, ax_has_ok h1, ax_has_ok h2, ax_has_ok h3, ax_has_ok h4⟩
    | false =>
      simp only [e0, cond_false] at h
      split at h
      · rename_i mi hmi
        simp only [Bool.and_eq_true] at h
        exact Or.inr ⟨by simpa using e0, mi, hmi, ax_has_ok h.1, ax_lnkM_ok h.2⟩
      · cases h
  | invokevirtual idx =>
    simp only [ax_chkW] at h
    split at h
    · rename_i mi q hmi hq
      simp only [Bool.and_eq_true, decide_eq_true_eq] at h
      obtain ⟨h1, h2, h3, h4⟩ := h
      exact ⟨mi, q.2.1, q.2.2, hmi, by rw [hq, ← h1], ax_has_ok h2, ax_has_ok h3, ax_lnkM_ok h4⟩
    · cases h
  | invokespecial idx =>
    simp only [ax_chkW] at h
    cases e0 : pe.1 == 8 with
    | true =>
      simp only [e0, cond_true, Bool.and_eq_true] at h
      exact Or.inl ⟨by simpa using e0, ax_has_ok h.1, ax_has_ok h.2.1, ax_has_ok h.2.2⟩
    | false =>
      simp only [e0, cond_false] at h
      split at h
      · rename_i mi hmi
        simp only [Bool.and_eq_true, decide_eq_true_eq] at h
        obtain ⟨h1, h2, h3, h4⟩ := h
        exact Or.inr ⟨by simpa using e0, mi, hmi, h1, h2, ax_has_ok h3, ax_lnkM_ok h4⟩
      · cases h
  | _ => trivial
def ax_chkE (prog : List ax_MI) (own nm : String) (cc : ByteArray) (en : ax_EN) : Bool :=
  decide (decode cc en.1 = .ok (en.2.1, en.2.2.1)) && ((Nat.beq (ax_len en.2.1) 0 || Nat.beq en.2.2.1 (ax_len en.2.1)) && ax_chkW prog own nm en.2.1 en.2.2.2.1 en.2.2.2.2)
theorem ax_chkE_ok {prog : List ax_MI} {own nm : String} {cc : ByteArray} {en : ax_EN} (h : ax_chkE prog own nm cc en = true) : ax_Ok prog own nm cc en.1 en.2.1 en.2.2.1 en.2.2.2.1 := by
  simp only [ax_chkE, Bool.and_eq_true, Bool.or_eq_true, decide_eq_true_eq, Nat.beq_eq] at h
  exact ⟨h.1, h.2.1, ax_chkW_ok h.2.2⟩
/-- a method, with the places of its code and of its class among the tables' words -/
def ax_chkH (q : ax_MI × Nat × Nat) : Bool :=
  ax_has q.2.1 (.code q.1.2.1 q.1.2.2.1 q.1.2.2.2.1 q.1.2.2.2.2.1) && (ax_has q.2.2 (.initialized q.1.2.1.cls) && (decide (q.1.2.1.cls ≠ "java/lang/invoke/MethodHandle" ∧ q.1.2.1.cls ≠ "java/lang/invoke/VarHandle" ∧ (parseMethodDescriptor q.1.2.1.desc).map (fun d => d.parameters.length) = some q.1.2.2.2.2.2.1) && (Nat.ble q.1.2.2.2.1 21 &&
    (decide (q.1.1 = q.1.2.1.cls) && plainName q.1.2.1.cls))))
def ax_MOk (prog : List ax_MI) (mi : ax_MI) : Prop := ax_callee mi.2.1 mi.2.2.1 mi.2.2.2.1 mi.2.2.2.2.1 mi.2.2.2.2.2.1 ∧ mi.1 = mi.2.1.cls ∧ plainName mi.2.1.cls = true ∧ ∀ ch ∈ mi.2.2.2.2.2.2.2.2, ∀ en ∈ ch, ax_Ok prog mi.1 mi.2.1.name mi.2.2.1 en.1 en.2.1 en.2.2.1 en.2.2.2.1
theorem ax_MOk_of {prog : List ax_MI} {mi : ax_MI} {a b : Nat} (h : ax_chkH (mi, a, b) = true) (ht : ∀ ch ∈ mi.2.2.2.2.2.2.2.2, ch.all (ax_chkE prog mi.1 mi.2.1.name mi.2.2.1) = true) : ax_MOk prog mi := by
  simp only [ax_chkH, Bool.and_eq_true, decide_eq_true_eq, Nat.ble_eq] at h
  obtain ⟨h1, h2, h3, h4, h5, h6⟩ := h
  exact ⟨⟨ax_has_ok h1, ax_has_ok h2, h3, h4⟩, h5, h6, fun ch hch en hen => ax_chkE_ok (List.all_eq_true.mp (ht ch hch) en hen)⟩
end
