/-! ===== A memory of numbered cells: cell k lies at the address B + k; the cells below B are as they were at the law's start ===== -/
/-- the classes whose objects there are -/
def ax_cl : List vw_C := [(RX0, TX0, 6), (RX1, TX1, 3), (RX2, TX2, 12), (RX3, TX3, 3), (RX4, TX4, 2), (RX5, TX5, 2), (RX5, TX5, 2), (RX7, TX7, 9), (RX8, TX8, 4), (RX9, TX9, 10), (RX10, TX10, 11), (RX11, TX11, 48)]
def ax_ty (ci k : Nat) : FieldType := match ci with
  | 0 => tyX0 k | 1 => tyX1 k | 2 => tyX2 k | 3 => tyX3 k | 4 => tyX4 k | 5 => tyX5 k | 6 => tyX5 k | 7 => tyX7 k | 8 => tyX8 k | 9 => tyX9 k | 10 => tyX10 k | _ => tyX11 k
theorem ax_ty_ok {ci N : Nat} {C : String} {T : u_T} (h : ax_cl[ci]? = some (C, T, N)) : ∀ k, k < N → parseFieldDescriptor (T k).2.2.1 = some (ax_ty ci k) := by
  match ci, h with
  | 0, h => cases h; exact tyX0_ok
  | 1, h => cases h; exact tyX1_ok
  | 2, h => cases h; exact tyX2_ok
  | 3, h => cases h; exact tyX3_ok
  | 4, h => cases h; exact tyX4_ok
  | 5, h => cases h; exact tyX5_ok
  | 6, h => cases h; exact tyX5_ok
  | 7, h => cases h; exact tyX7_ok
  | 8, h => cases h; exact tyX8_ok
  | 9, h => cases h; exact tyX9_ok
  | 10, h => cases h; exact tyX10_ok
  | 11, h => cases h; exact tyX11_ok
  | n + 12, h => simp [ax_cl] at h
theorem ax_nm {ci N : Nat} {C : String} {T : u_T} (h : ax_cl[ci]? = some (C, T, N)) : ∀ a, a < N → ∀ b, b < N → a ≠ b → (T a).2.1 ≠ (T b).2.1 := by
  match ci, h with
  | 0, h => cases h; exact nmX0
  | 1, h => cases h; exact nmX1
  | 2, h => cases h; exact nmX2
  | 3, h => cases h; exact nmX3
  | 4, h => cases h; exact nmX4
  | 5, h => cases h; exact nmX5
  | 6, h => cases h; exact nmX5
  | 7, h => cases h; exact nmX7
  | 8, h => cases h; exact nmX8
  | 9, h => cases h; exact nmX9
  | 10, h => cases h; exact nmX10
  | 11, h => cases h; exact nmX11
  | n + 12, h => simp [ax_cl] at h
/-- the words that stay through calls -/
def ax_G : List Cond := lw_tbl.filter goodWord
theorem ax_G_in {w : Cond} (h : w ∈ lw_tbl) (hg : goodWord w = true) : w ∈ ax_G := List.mem_filter.mpr ⟨h, hg⟩
theorem ax_lays_all : ax_cl.all (fun q => (u_ws q.1 q.2.1 q.2.2).all (fun w => lw_tbl.contains w && goodWord w)) = true := by decide +kernel
theorem ax_lay {ci N : Nat} {C : String} {T : u_T} (h : ax_cl[ci]? = some (C, T, N)) : ∀ w ∈ u_ws C T N, w ∈ ax_G := by
  intro w hw
  have h1 := List.all_eq_true.mp (List.all_eq_true.mp ax_lays_all _ (List.mem_of_getElem? h)) w hw
  simp only [Bool.and_eq_true] at h1
  exact ax_G_in (by simpa using h1.1) h1.2
def ax_nest : Cond → Bool
  | .fieldLinkNest _ _ _ _ _ _ => true
  | .methodLinkNest _ _ _ _ => true
  | _ => false
/-- static arrays: class, field, contents -/
def ax_st : List (String × String × List Int32) := [("LetterSums", "WORTH", [1, 5, 10, 50, 100, 500, 1000, 1000, 5000, 10000, 50000, 100000, 500000, 1000000]), ("LetterSums$Abacus", "BUNDLE", [5, 2, 5, 2, 5, 2])]
/-- element types of the arrays that are made -/
def ax_tn : List FieldType := [.int, .byte, .object "LetterSums$Row", .object "LetterSums$Custom", .object "LetterSums$Mason"]
/-- an abstract cell: an array (number of its type, length, contents), or an object (number of its class, fields). References are numbers of cells -/
abbrev ax_C : Type := (Nat × Nat × ((Nat → Int32) ⊕ (Nat → Option Nat))) ⊕ (Nat × List Value)
/-- D, B, the heap at the law's start, what the symbols stand for, addresses of the static arrays, array classes -/
abbrev ax_T : Type := va_G × Nat × Heap × (Nat → Int32) × (Nat → Nat) × List (ClassId × FieldType)
/-- an abstract value: .ref k is cell k, .float u the symbol u (an int), .retAddr j static array j -/
def ax_v (G : ax_T) : Value → Value
  | .ref k => .ref (G.2.1 + k)
  | .float u => .int (G.2.2.2.1 u.toNat)
  | .retAddr j => .ref (G.2.2.2.2.1 j)
  | .int x => .int x
  | .long x => .long x
  | .double x => .double x
  | .null => .null
theorem ax_cat (G : ax_T) (v : Value) : (ax_v G v).category = v.category := by cases v <;> rfl
def ax_e (G : ax_T) : ax_C → va_E
  | .inl (t, n, .inl f) => .inl ((G.2.2.2.2.2.getD t (0, .int)).1, n, .inl f)
  | .inl (t, n, .inr f) => .inl ((G.2.2.2.2.2.getD t (0, .int)).1, n, .inr (.inr (.inr (.inr (fun j => (f j).map (G.2.1 + ·))))))
  | .inr (ci, fs) => .inr (ci, fs.map (ax_v G))
def ax_R (G : ax_T) (g : Nat → Option ax_C) (n : Nat) (H : Heap) : Prop :=
  H.size = G.2.1 + n ∧ (∀ (k : Nat) (c : ax_C), g k = some c → va_at G.1 ax_cl (G.2.1 + k, ax_e G c) H) ∧ ∀ q : Nat, q < G.2.1 → H[q]? = G.2.2.1[q]?
theorem ax_R.set {G : ax_T} {g g' : Nat → Option ax_C} {n k : Nat} {c : ax_C} {H H1 : Heap} (h : ax_R G g n H) (hz : H1.size = H.size) (ho : ∀ q : Nat, q ≠ G.2.1 + k → H1[q]? = H[q]?) (hc : va_at G.1 ax_cl (G.2.1 + k, ax_e G c) H1)
    (hg : ∀ (j : Nat) (d : ax_C), g' j = some d → (j = k ∧ d = c) ∨ (j ≠ k ∧ g j = some d)) : ax_R G g' n H1 := by
  refine ⟨hz.trans h.1, fun j d hd => ?_, fun q hq => ?_⟩
  · rcases hg j d hd with ⟨rfl, rfl⟩ | ⟨hj, hd⟩
    · exact hc
    · exact (h.2.1 j d hd).kept (ho _ (by simp only; omega))
  · rw [ho q (by omega)]; exact h.2.2 q hq
theorem ax_R.push {G : ax_T} {g g' : Nat → Option ax_C} {n : Nat} {c : ax_C} {H H1 : Heap} (h : ax_R G g n H) (hz : H1.size = H.size + 1) (ho : ∀ q : Nat, q < H.size → H1[q]? = H[q]?) (hc : va_at G.1 ax_cl (G.2.1 + n, ax_e G c) H1)
    (hg : ∀ (j : Nat) (d : ax_C), g' j = some d → (j = n ∧ d = c) ∨ g j = some d) : ax_R G g' (n + 1) H1 := by
  refine ⟨by rw [hz, h.1]; omega, fun j d hd => ?_, fun q hq => ?_⟩
  · rcases hg j d hd with ⟨rfl, rfl⟩ | hd
    · exact hc
    · exact (h.2.1 j d hd).kept (ho _ (h.2.1 j d hd).lt)
  · rw [ho q (by rw [h.1]; omega)]; exact h.2.2 q hq
/-- the text of the signs' letters: the constant's String, its bytes -/
def sx_L : List Int32 := [73, 86, 88, 76, 67, 68, 77, 105, 118, 120, 108, 99, 100, 109]
def sx_S (G : ax_T) (U : State) : Prop := ∃ sa va : Nat, vk_R "LetterSums" 314 "IVXLCDMivxlcdm" sa U ∧ va_Z "java/lang/String" "COMPACT_STRINGS" "Z" (.int 1) (fun q => G.2.1 ≤ q) U G.2.2.1 ∧ va_O "java/lang/String" sa (fun q => G.2.1 ≤ q) U G.2.2.1 ∧ va_OF "java/lang/String" "coder" "B" (.int 0) sa (fun q => G.2.1 ≤ q) U G.2.2.1 ∧ va_OF "java/lang/String" "value" "[B" (.ref va) sa (fun q => G.2.1 ≤ q) U G.2.2.1 ∧ va_T .byte va 14 (fun j => .int (sx_L.getD j 0)) (fun q => G.2.1 ≤ q) U G.2.2.1
theorem sx_S.warm {G : ax_T} {s U : State} (hW : s.WarmedH U.vm) (h : sx_S G s) : sx_S G U := by
  obtain ⟨sa, va, h1, h2, h3, h4, h5, h6⟩ := h
  exact ⟨sa, va, h1.warm hW, h2.moved hW.alike, h3.moved hW.alike, h4.moved hW.alike, h5.moved hW.alike, h6.moved hW.alike⟩
theorem sx_S.same {G : ax_T} {s U : State} (hv : s.vm = U.vm) (h : sx_S G s) : sx_S G U := by
  obtain ⟨sa, va, h1, h2, h3, h4, h5, h6⟩ := h
  have ha : s.vm.Alike U.vm := by rw [hv]; exact Vm.Alike.refl _
  exact ⟨sa, va, h1.same hv.symm, h2.moved ha, h3.moved ha, h4.moved ha, h5.moved ha, h6.moved ha⟩
/-- what stands through all: the classes, the nest mates' words, array classes, the static arrays -/
def ax_X (G : ax_T) (U : State) : Prop :=
  va_K G.1 ax_cl G.2.2.2.2.2 U ∧ (∀ w ∈ lw_tbl, ax_nest w = true → va_Nw w U) ∧ (va_AO "LetterSums$Row" U ∧ va_AO "LetterSums$Custom" U ∧ va_AO "LetterSums$Mason" U ∧ sx_S G U) ∧
  (∀ (j : Nat) (z : String × String × List Int32), ax_st[j]? = some z → va_Z z.1 z.2.1 "[I" (.ref (G.2.2.2.2.1 j)) (fun q => G.2.1 ≤ q) U G.2.2.1 ∧ va_T .int (G.2.2.2.2.1 j) z.2.2.length (fun i => .int (z.2.2.getD i 0)) (fun q => G.2.1 ≤ q) U G.2.2.1) ∧
  G.2.2.2.2.2.map (·.2) = ax_tn
theorem ax_Nw_warm {w : Cond} (hn : ax_nest w = true) {s U : State} (hW : s.WarmedH U.vm) (h : va_Nw w s) : va_Nw w U := by
  cases w <;> first | exact va_Nw.warmF hW h | exact va_Nw.warmM hW h | (simp [ax_nest] at hn)
theorem ax_X.warm {G : ax_T} {s U : State} (hW : s.WarmedH U.vm) (h : ax_X G s) : ax_X G U := by
  obtain ⟨h1, h2, ⟨h3, h4, h5, h8⟩, h6, h7⟩ := h
  exact ⟨va_K.moved hW.alike h1, fun w hw hn => ax_Nw_warm hn hW (h2 w hw hn), ⟨h3.moved hW.alike, h4.moved hW.alike, h5.moved hW.alike, h8.warm hW⟩, fun j z hz => ⟨(h6 j z hz).1.moved hW.alike, (h6 j z hz).2.moved hW.alike⟩, h7⟩
theorem ax_X.same {G : ax_T} {s U : State} (hv : s.vm = U.vm) (h : ax_X G s) : ax_X G U := by
  obtain ⟨h1, h2, ⟨h3, h4, h5, h8⟩, h6, h7⟩ := h
  have ha : s.vm.Alike U.vm := by rw [hv]; exact Vm.Alike.refl _
  refine ⟨va_K.moved ha h1, fun w hw hn => ?_, ⟨h3.moved ha, h4.moved ha, h5.moved ha, h8.same hv⟩, fun j z hz => ⟨(h6 j z hz).1.moved ha, (h6 j z hz).2.moved ha⟩, h7⟩
  have hk := h2 w hw hn
  cases w <;> first | exact va_Nw.same rfl hv hk | (simp [ax_nest] at hn)
/-- what is known inside a method -/
def ax_M (G : ax_T) (p : Program) (s : State) (m : MethodId) (args : Array Value) (meth : Method) (c : Code) (own : String) (cc : ByteArray) (nL : Nat) : Prop :=
  p.tables.exec = Jvm.exec ∧ c.code = cc ∧ c.maxLocals = nL ∧ s.vm.findClass own = some m.cls ∧ (∀ w ∈ ax_G, w.before args s = true) ∧ meth.locks = false ∧ ax_X G s
section AXW
variable {G : ax_T} {p : Program} {l : Launch} {e : Env} {R : Room} {s : State} {m : MethodId} {args : Array Value} {below : List Frame} {meth : Method} {c : Code} {Q : State → Prop} {own : String} {cc : ByteArray} {nL : Nat}
/-- the machine, in a frame of the method, over the numbered cells g (n of them), comes to Q -/
def ax_W (G : ax_T) (p : Program) (l : Launch) (e : Env) (R : Room) (s : State) (m : MethodId) (args : Array Value) (below : List Frame) (meth : Method) (c : Code) (Q : State → Prop) (nL : Nat) (pc : Nat) (lv : List (Nat × Value)) (st : List Value) (g : Nat → Option ax_C) (n cs ss : Nat) : Prop :=
  ∀ (ls : Array Slot) (H : Heap) (locs : List Loc), lv_has ls nL (lv.map fun q => (q.1, ax_v G q.2)) → ax_R G g n H → (∀ q ∈ locs, G.2.1 ≤ q.base) → W p l e R s m args below meth c H locs cs ss Q (F0 m pc ls (st.map (ax_v G)))
theorem ax_P1 {D : va_G} {cl : List vw_C} {q : Nat × va_E} {H : Heap} (h : va_at D cl q H) : va_P D cl [q] H := by
  intro k r hk
  cases k with
  | zero => cases hk; exact h
  | succ k => simp at hk
variable {pc : Nat} {lv : List (Nat × Value)} {st : List Value} {g g' : Nat → Option ax_C} {n cs ss : Nat}
theorem ax_getf (M : ax_M G p s m args meth c own cc nL) {k ci j N idx : Nat} {fs : List Value} {C : String} {T : u_T} {v : Value} (hk : g k = some (.inr (ci, fs))) (hc : ax_cl[ci]? = some (C, T, N)) (hj : j < N) (hv : fs[j]? = some v)
    (hw : Cond.fieldLink own idx (T j).1 (T j).2.1 (T j).2.2.1 ∈ ax_G ∨ ∃ host, Cond.fieldLinkNest own idx (T j).1 (T j).2.1 (T j).2.2.1 host ∈ lw_tbl) (hd : decode cc pc = .ok (.getfield idx, 3))
    (kk : ax_W G p l e R s m args below meth c Q nL (pc + 3) lv (v :: st) g n cs ss) : ax_W G p l e R s m args below meth c Q nL pc lv (.ref k :: st) g n cs ss := by
  intro ls H locs hl hR hL
  obtain ⟨hx, hb, -, hown, hts, -, hX⟩ := M
  have hP := ax_P1 (hR.2.1 k _ hk)
  have hv' : (fs.map (ax_v G))[j]? = some (ax_v G v) := by rw [List.getElem?_map, hv]; rfl
  rcases hw with hw | ⟨host, hw⟩
  · exact va_get hx hb hts (ax_lay hc) hown hX.1 hP 0 rfl hc j hj (hts _ hw) (fun _ h => h) hv' hd (kk ls H locs hl hR hL)
  · exact va_getN hx hb hts (ax_lay hc) hown hX.1 hP 0 rfl hc j hj (va_Nw.use rfl (hX.2.1 _ hw rfl)) (fun _ h => h) hv' hd (kk ls H locs hl hR hL)
/-- a field is written (not final) -/
theorem ax_putf (M : ax_M G p s m args meth c own cc nL) {k ci j N idx : Nat} {fs : List Value} {C : String} {T : u_T} {v : Value} (hk : g k = some (.inr (ci, fs))) (hc : ax_cl[ci]? = some (C, T, N)) (hj : j < N) (hf : j < fs.length)
    (hw : (Cond.fieldLink own idx (T j).1 (T j).2.1 (T j).2.2.1 ∈ ax_G) ∨ ∃ host, Cond.fieldLinkNest own idx (T j).1 (T j).2.1 (T j).2.2.1 host ∈ lw_tbl) (hfin : (T j).2.2.2 = false)
    (hnar : narrow (ax_ty ci j) (ax_v G v) = ax_v G v) (hfit : fits (ax_ty ci j) (ax_v G v) = true) (hd : decode cc pc = .ok (.putfield idx, 3))
    (hg : ∀ (i : Nat) (d : ax_C), g' i = some d → (i = k ∧ d = .inr (ci, fs.set j v)) ∨ (i ≠ k ∧ g i = some d))
    (kk : ax_W G p l e R s m args below meth c Q nL (pc + 3) lv st g' n cs ss) : ax_W G p l e R s m args below meth c Q nL pc lv (v :: .ref k :: st) g n cs ss := by
  intro ls H locs hl hR hL
  obtain ⟨hx, hb, -, hown, hts, -, hX⟩ := M
  have hap := va_apart (own := own) hts (ax_lay hc) (ax_ty ci) (ax_ty_ok hc) (ax_nm hc) hX.1 hc
  obtain ⟨r, h1, cell, q1, q2, q3, q4⟩ := hR.2.1 k _ hk
  have hr : r = (C, T, N) := Option.some.inj (h1.symm.trans hc)
  subst hr
  obtain ⟨hS, hfc, kC, hkC, hkind⟩ := hX.1.1 ci _ hc
  obtain ⟨cf, kf, fi, f, hi, hsl⟩ := hS j hj
  have hlay := hts _ (ax_lay hc _ (u_in_lay hj))
  unfold u_lay at hlay
  rw [if_neg (by rw [hfin]; decide)] at hlay
  have hst := (u_facts hfc hkC (u_lays hts (ax_lay hc) hj) hi).1
  have h6 := u_store hfc hkC hkind hlay hi (ax_ty_ok hc j hj) hnar hfit
  have fin : ∀ H' : Heap, H'[G.2.1 + k]? = some (cell.setSlot f.slot (ax_v G v)) → H'.size = H.size → (∀ q, q ≠ G.2.1 + k → H'[q]? = H[q]?) → W p l e R s m args below meth c H' (locs ++ [⟨G.2.1 + k, f.slot⟩]) cs ss Q (F0 m (pc + 3) ls (st.map (ax_v G))) := by
    intro H' e1 e2 e3
    refine kk ls H' _ hl (hR.set (c := .inr (ci, fs.set j v)) e2 e3 ⟨_, hc, t_OB.to (V := updV (vp_V (fs.map (ax_v G))) j (ax_v G v)) ⟨_, e1, q2, q3, ?_⟩ (fun i _ => ?_)⟩ hg) ?_
    · rw [hsl]; exact t_set q4 hap hj _
    · rw [vp_updV_set (by simpa using hf)]; simp [List.map_set]
    · intro q hq
      rcases List.mem_append.mp hq with h | h
      · exact hL q h
      · rw [List.mem_singleton.mp h]; exact Nat.le_add_right _ _
  rcases hw with hw | ⟨host, hw⟩
  · exact W.putK hx hb (f := f) ⟨hown, hts _ hw, ⟨_, _, _, hi⟩, hst⟩ (by rw [q2]; exact h6) q1 q3 (by rw [hsl]; exact k2_hasslot (q4 j hj)) rfl rfl hd fin
  · exact va_WputK hx hb (f := f) hown (va_Nw.use rfl (hX.2.1 _ hw rfl)) hi hst (by rw [q2]; exact h6) q1 q3 (by rw [hsl]; exact k2_hasslot (q4 j hj)) rfl rfl hd fin
/-- a final field is written in its constructor -/
theorem ax_putF (M : ax_M G p s m args meth c own cc nL) {k ci j N idx : Nat} {fs : List Value} {C : String} {T : u_T} {v : Value} (hk : g k = some (.inr (ci, fs))) (hc : ax_cl[ci]? = some (C, T, N)) (hj : j < N) (hf : j < fs.length)
    (hw : Cond.fieldLink own idx (T j).1 (T j).2.1 (T j).2.2.1 ∈ ax_G) (hfin : (T j).2.2.2 = true) (hin : meth.name = "<init>") (hdecl : (T j).1 = own)
    (hnar : narrow (ax_ty ci j) (ax_v G v) = ax_v G v) (hfit : fits (ax_ty ci j) (ax_v G v) = true) (hd : decode cc pc = .ok (.putfield idx, 3))
    (hg : ∀ (i : Nat) (d : ax_C), g' i = some d → (i = k ∧ d = .inr (ci, fs.set j v)) ∨ (i ≠ k ∧ g i = some d))
    (kk : ax_W G p l e R s m args below meth c Q nL (pc + 3) lv st g' n cs ss) : ax_W G p l e R s m args below meth c Q nL pc lv (v :: .ref k :: st) g n cs ss := by
  intro ls H locs hl hR hL
  obtain ⟨hx, hb, -, hown, hts, -, hX⟩ := M
  have hap := va_apart (own := own) hts (ax_lay hc) (ax_ty ci) (ax_ty_ok hc) (ax_nm hc) hX.1 hc
  obtain ⟨r, h1, cell, q1, q2, q3, q4⟩ := hR.2.1 k _ hk
  have hr : r = (C, T, N) := Option.some.inj (h1.symm.trans hc)
  subst hr
  obtain ⟨hS, hfc, kC, hkC, hkind⟩ := hX.1.1 ci _ hc
  obtain ⟨cf, kf, fi, f, hi, hsl⟩ := hS j hj
  have hlay := hts _ (ax_lay hc _ (u_in_lay hj))
  unfold u_lay at hlay
  rw [if_pos hfin] at hlay
  have hst := (u_facts hfc hkC (u_lays hts (ax_lay hc) hj) hi).1
  have hcf : m.cls = cf := by
    obtain ⟨_, _, c', _, _, _, -, -, hf', -, -, -, hown2, -⟩ := Cond.laysFinal_spec hlay
    have e1 : c' = cf := by have := hi.symm.trans hf'; simp at this; exact this.1.symm
    rw [hdecl] at hown2
    rw [← e1]; exact Option.some.inj (hown.symm.trans hown2)
  have h6 := u_fits hfc hkC hkind (Or.inr hlay) hi (ax_ty_ok hc j hj) hnar hfit
  refine W.putFinK hx hb hown (hts _ hw) hi hst hcf hin (by rw [q2]; exact h6) q1 q3 (by rw [hsl]; exact k2_hasslot (q4 j hj)) rfl rfl hd fun H' e1 e2 e3 => ?_
  refine kk ls H' _ hl (hR.set (c := .inr (ci, fs.set j v)) e2 e3 ⟨_, hc, t_OB.to (V := updV (vp_V (fs.map (ax_v G))) j (ax_v G v)) ⟨_, e1, q2, q3, ?_⟩ (fun i _ => ?_)⟩ hg) ?_
  · rw [hsl]; exact t_set q4 hap hj _
  · rw [vp_updV_set (by simpa using hf)]; simp [List.map_set]
  · intro q hq
    rcases List.mem_append.mp hq with h | h
    · exact hL q h
    · rw [List.mem_singleton.mp h]; exact Nat.le_add_right _ _
end AXW
