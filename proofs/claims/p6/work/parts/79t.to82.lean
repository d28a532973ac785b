section
/-! ===== signOf: the letter's place in a String, by hand, over the real values ===== -/
set_option maxRecDepth 100000 in
theorem rx_in {w : Cond} (h : lw_tbl.contains w = true) (hg : goodWord w = true) : w ∈ ax_G := ax_G_in (by simpa using h) hg
def rx_F (G : ax_T) (sa va : Nat) (U : State) : Prop := va_Z "java/lang/String" "COMPACT_STRINGS" "Z" (.int 1) (fun q => G.2.1 ≤ q) U G.2.2.1 ∧ va_O "java/lang/String" sa (fun q => G.2.1 ≤ q) U G.2.2.1 ∧ va_OF "java/lang/String" "coder" "B" (.int 0) sa (fun q => G.2.1 ≤ q) U G.2.2.1 ∧ va_OF "java/lang/String" "value" "[B" (.ref va) sa (fun q => G.2.1 ≤ q) U G.2.2.1 ∧ va_T .byte va 14 (fun j => .int (sx_L.getD j 0)) (fun q => G.2.1 ≤ q) U G.2.2.1
set_option maxRecDepth 100000 in
theorem rx_F.warm {G : ax_T} {sa va : Nat} {s U : State} (hW : s.WarmedH U.vm) (h : rx_F G sa va s) : rx_F G sa va U := by
  obtain ⟨h2, h3, h4, h5, h6⟩ := h
  exact ⟨h2.moved hW.alike, h3.moved hW.alike, h4.moved hW.alike, h5.moved hW.alike, h6.moved hW.alike⟩
set_option maxRecDepth 100000 in
theorem rx_F.same {G : ax_T} {sa va : Nat} {s U : State} (hv : s.vm = U.vm) (h : rx_F G sa va s) : rx_F G sa va U := by
  obtain ⟨h2, h3, h4, h5, h6⟩ := h
  have ha : s.vm.Alike U.vm := by rw [hv]; exact Vm.Alike.refl _
  exact ⟨h2.moved ha, h3.moved ha, h4.moved ha, h5.moved ha, h6.moved ha⟩
def rx_P (G : ax_T) (sa va : Nat) (as : List Value) (g : Nat → Option ax_C) (n : Nat) : Array Value → State → Prop := fun a U => a = as.toArray ∧ (ax_X G U ∧ rx_F G sa va U) ∧ ax_R G g n U.heap
def rx_Q (G : ax_T) (r : Value) (g : Nat → Option ax_C) (n : Nat) : Array Value → State → Outcome → State → Prop := fun _ _ o t => o = .returned (some r) ∧ ax_R G g n t.heap
def rx_Met (l : Launch) (G : ax_T) (sa va : Nat) (y : MethodName) (bytes : ByteArray) (maxL : Nat) (ret : Option FieldType) (d : Nat) (as : List Value) (g : Nat → Option ax_C) (n : Nat) (r : Value) : Prop :=
  Met l y (Cond.code y bytes maxL ret :: ax_G) (ax_rm d 0 0) (rx_P G sa va as g n) (rx_Q G r g n) 0 0 (fun q => G.2.1 ≤ q)
set_option maxRecDepth 100000 in
theorem rx_blind (G : ax_T) (sa va : Nat) (as : List Value) (g : Nat → Option ax_C) (n : Nat) : FrameBlind (rx_P G sa va as g n) := fun a U f mk h => ⟨h.1, ⟨ax_X.same (s := U) (U := U.calling f mk a) rfl h.2.1.1, rx_F.same (s := U) (U := U.calling f mk a) rfl h.2.1.2⟩, h.2.2⟩
def rx_M (G : ax_T) (sa va : Nat) (p : Program) (s : State) (m : MethodId) (args : Array Value) (meth : Method) (c : Code) (own : String) (cc : ByteArray) (nL : Nat) : Prop := ax_M G p s m args meth c own cc nL ∧ rx_F G sa va s
def rx_W (G : ax_T) (p : Program) (l : Launch) (e : Env) (R : Room) (s : State) (m : MethodId) (args : Array Value) (below : List Frame) (meth : Method) (c : Code) (Q : State → Prop) (nL : Nat) (pc : Nat) (lv : List (Nat × Value)) (st : List Value) (g : Nat → Option ax_C) (n : Nat) : Prop :=
  ∀ (ls : Array Slot) (H : Heap) (locs : List Loc), lv_has ls nL lv → ax_R G g n H → (∀ q ∈ locs, G.2.1 ≤ q.base) → W p l e R s m args below meth c H locs 0 0 Q (F0 m pc ls st)
section RX
variable {G : ax_T} {sa va : Nat} {p : Program} {l : Launch} {e : Env} {R : Room} {s : State} {m : MethodId} {args : Array Value} {below : List Frame} {meth : Method} {c : Code} {Q : State → Prop} {own : String} {cc : ByteArray} {nL : Nat}
variable {pc : Nat} {lv : List (Nat × Value)} {st rest : List Value} {g : Nat → Option ax_C} {n d idx nA : Nat} {y : MethodName} {bytes : ByteArray} {maxL : Nat} {ret : Option FieldType} {as : List Value} {r : Value} {H : Heap} {ls : Array Slot} {locs : List Loc}
set_option maxRecDepth 100000 in
theorem rx_met (hp : plainName y.cls = true) (hlen : (lg_sl as).length ≤ maxL)
    (body : ∀ (p : Program) (e : Env) (s : State) (m : MethodId) (args : Array Value) (below : List Frame) (meth : Method) (c : Code), rx_M G sa va p s m args meth c y.cls bytes maxL → meth.sig.returnType = ret → rx_W G p l e (ax_rm d 0 0) s m args below meth c (MQ below (rx_Q G r g n) args s 0 0 (fun q => G.2.1 ≤ q)) maxL 0 (lv_args 0 as) [] g n) : rx_Met l G sa va y bytes maxL ret d as g n r := by
  unfold rx_Met
  refine Met.ofW (cc := bytes) (maxL := maxL) (ret := ret) hp rfl ?_
  intro p e s m args below meth c s₁ B hml hv
  obtain ⟨rfl, ⟨hX, hF⟩, hRel⟩ := hv
  have hts := atoms_spec (ws := Cond.code y bytes maxL ret :: ax_G) B.pre
  have hown : s.vm.findClass y.cls = some m.cls := findClass_of_methodNamed B.named
  have M : ax_M G p s m as.toArray meth c y.cls bytes maxL := ⟨B.exec, B.bytes, hml, hown, fun w hw => hts w (List.mem_cons_of_mem _ hw), B.notSynchronized, hX⟩
  rw [lg_entry_eq]
  exact body p e s m as.toArray below meth c ⟨M, hF⟩ B.returns _ s.heap [] (lv_entry as hlen) hRel (fun q hq => by cases hq)
set_option maxRecDepth 100000 in
theorem rx_after {st0 : List Value} {a : Array Value} (hr : va_Run p l e R s m args below meth c H locs 0 0 0 0 (F0 m pc ls st0) rest (rx_Q G r g n a) (fun q => G.2.1 ≤ q)) (hL : ∀ q ∈ locs, G.2.1 ≤ q.base)
    (kk : ∀ (H1 : Heap) (locs1 : List Loc), ax_R G g n H1 → (∀ q ∈ locs1, G.2.1 ≤ q.base) → W p l e R s m args below meth c H1 locs1 0 0 Q (F0 m (pc + 3) ls (r :: rest))) : W p l e R s m args below meth c H locs 0 0 Q (F0 m pc ls st0) := by
  intro T hT X
  obtain ⟨v, st₀, t, T', L, h0, X', hL', e1, e2, ⟨ho, hR'⟩, st1⟩ := hr T hT X
  have hv : v = some r := Outcome.returned.inj ho
  subst hv
  obtain ⟨t2, a1, b1⟩ := kk T'.heap (locs ++ L) (by rw [e1]; exact hR') (fun q hq => by
    rcases List.mem_append.mp hq with h | h
    · exact hL q h
    · exact hL' q h) T' rfl X'
  exact ⟨t2, st1 t2 a1, b1⟩
set_option maxRecDepth 100000 in
theorem rx_callS (M : rx_M G sa va p s m args meth c own cc nL) (hM : rx_Met l G sa va y bytes maxL ret d as g n r) (hy : ax_callee y bytes maxL ret nA) (hst : Cond.static y ∈ ax_G)
    (hw : Cond.methodLink own idx y ∈ ax_G) (hn : as.length = nA) (hf : d + 1 ≤ R.frames) (hlo : 40 * (d + 1) ≤ R.locals) (hsum : (rest.map fun v => v.category).sum ≤ 8) (hstk : st = as.reverse ++ rest)
    (hd : decode cc pc = .ok (.invokestatic idx, 3)) (kk : rx_W G p l e R s m args below meth c Q nL (pc + 3) lv (r :: rest) g n) : rx_W G p l e R s m args below meth c Q nL pc lv st g n := by
  intro ls H locs hl hR hL
  obtain ⟨⟨hx, hb, hml, hown, hts, -, hX⟩, hF⟩ := M
  obtain ⟨hcw, hin, hyy, hmx⟩ := hy
  have hp : PreS s H (rx_P G sa va as g n) as := ⟨rx_blind G sa va as g n, fun U hU hW => ⟨rfl, ⟨hX.warm hW, hF.warm hW⟩, by rw [hU]; exact hR⟩⟩
  have hroom : (ax_rm d 0 0).frames + 1 ≤ R.frames ∧ 8 + (maxL + 11) + (ax_rm d 0 0).locals ≤ R.locals := ⟨hf, by show 8 + (maxL + 11) + 40 * d ≤ R.locals; omega⟩
  have hW8 : 2 * (F0 m pc ls st).monitorRoom + (rest.map fun v => v.category).sum ≤ 8 := by show 2 * 0 + _ ≤ 8; omega
  exact rx_after (va_runS ⟨hx, hb, hml, hown, hts⟩ hM ⟨callB_of nA hts (ax_good hcw) rfl rfl rfl (hts _ hin) (hts _ hw) hyy hroom, hts _ hst⟩ hp rfl hn (hl.1) hstk hW8 hd ⟨Nat.zero_le _, Nat.zero_le _⟩) hL fun H1 locs1 hR1 hL1 => kk ls H1 locs1 hl hR1 hL1
set_option maxRecDepth 100000 in
theorem rx_callV (M : rx_M G sa va p s m args meth c own cc nL) (hM : rx_Met l G sa va y bytes maxL ret d (.ref sa :: as) g n r) (hy : ax_callee y bytes maxL ret nA) (hyc : y.cls = "java/lang/String") (hst : Cond.instanceMethod y ∈ ax_G) (hse : Cond.selects "java/lang/String" y y ∈ ax_G)
    (hw : Cond.methodLink own idx y ∈ ax_G) (hn : as.length = nA) (hf : d + 1 ≤ R.frames) (hlo : 40 * (d + 1) ≤ R.locals) (hsum : (rest.map fun v => v.category).sum ≤ 8) (hstk : st = as.reverse ++ .ref sa :: rest)
    (hd : decode cc pc = .ok (.invokevirtual idx, 3)) (kk : rx_W G p l e R s m args below meth c Q nL (pc + 3) lv (r :: rest) g n) : rx_W G p l e R s m args below meth c Q nL pc lv st g n := by
  intro ls H locs hl hR hL
  obtain ⟨⟨hx, hb, hml, hown, hts, -, hX⟩, hF⟩ := M
  obtain ⟨hcw, hin, hyy, hmx⟩ := hy
  obtain ⟨cell, c1, c2, c3, c4⟩ := hF.2.1
  have c1' : H[sa]? = some cell := by rw [hR.2.2 sa (Nat.not_le.mp c4)]; exact c1
  have hp : PreV s H "java/lang/String" sa (rx_P G sa va (.ref sa :: as) g n) as := ⟨rx_blind G sa va _ g n, ⟨cell, c1', c2, c3⟩, fun U hU hW => ⟨rfl, ⟨hX.warm hW, hF.warm hW⟩, by rw [hU]; exact hR⟩⟩
  have hroom : (ax_rm d 0 0).frames + 1 ≤ R.frames ∧ 8 + (maxL + 11) + (ax_rm d 0 0).locals ≤ R.locals := ⟨hf, by show 8 + (maxL + 11) + 40 * d ≤ R.locals; omega⟩
  have hW8 : 2 * (F0 m pc ls st).monitorRoom + (rest.map fun v => v.category).sum ≤ 8 := by show 2 * 0 + _ ≤ 8; omega
  exact rx_after (va_runV ⟨hx, hb, hml, hown, hts⟩ hM ⟨callB_of nA hts (ax_good hcw) rfl rfl rfl (hts _ hin) (hts _ hw) hyy hroom, hts _ hst, hts _ hse⟩ hp rfl hn (hl.1) hstk hW8 hd ⟨Nat.zero_le _, Nat.zero_le _⟩) hL fun H1 locs1 hR1 hL1 => kk ls H1 locs1 hl hR1 hL1
set_option maxRecDepth 100000 in
theorem rx_gets (M : rx_M G sa va p s m args meth c own cc nL) (hR : ax_R G g n H) (hw : Cond.fieldLink own idx "java/lang/String" "COMPACT_STRINGS" "Z" ∈ ax_G) (hd : decode cc pc = .ok (.getstatic idx, 3))
    (kk : W p l e R s m args below meth c H locs 0 0 Q (F0 m (pc + 3) ls (.int 1 :: rest))) : W p l e R s m args below meth c H locs 0 0 Q (F0 m pc ls rest) := by
  obtain ⟨⟨hx, hb, hml, hown, hts, -, hX⟩, hF⟩ := M
  obtain ⟨cf, kf, fi, f, a, cell, h1, h2, h3, h4, h5, h6, h7, h8⟩ := hF.1
  have h5' : H[a]? = some cell := by rw [hR.2.2 a (Nat.not_le.mp h8)]; exact h5
  exact W.gets hx hb hown (hts _ hw) h1 h2 h3 h4 h5' (fun e => by rw [e] at h6; cases h6) h7 rfl hd kk
set_option maxRecDepth 100000 in
theorem rx_getc (M : rx_M G sa va p s m args meth c own cc nL) (hR : ax_R G g n H) (hw : Cond.fieldLink own idx "java/lang/String" "coder" "B" ∈ ax_G) (hd : decode cc pc = .ok (.getfield idx, 3))
    (kk : W p l e R s m args below meth c H locs 0 0 Q (F0 m (pc + 3) ls (.int 0 :: rest))) : W p l e R s m args below meth c H locs 0 0 Q (F0 m pc ls (.ref sa :: rest)) := by
  obtain ⟨⟨hx, hb, hml, hown, hts, -, hX⟩, hF⟩ := M
  obtain ⟨cf, kf, fi, f, cell, h1, h2, h3, h4, h5, h6⟩ := hF.2.2.1
  have h3' : H[sa]? = some cell := by rw [hR.2.2 sa (Nat.not_le.mp h6)]; exact h3
  exact W.getf hx hb hown (hts _ hw) h1 h2 h3' h4 h5 rfl rfl hd kk
set_option maxRecDepth 100000 in
theorem rx_getv (M : rx_M G sa va p s m args meth c own cc nL) (hR : ax_R G g n H) (hw : Cond.fieldLink own idx "java/lang/String" "value" "[B" ∈ ax_G) (hd : decode cc pc = .ok (.getfield idx, 3))
    (kk : W p l e R s m args below meth c H locs 0 0 Q (F0 m (pc + 3) ls (.ref va :: rest))) : W p l e R s m args below meth c H locs 0 0 Q (F0 m pc ls (.ref sa :: rest)) := by
  obtain ⟨⟨hx, hb, hml, hown, hts, -, hX⟩, hF⟩ := M
  obtain ⟨cf, kf, fi, f, cell, h1, h2, h3, h4, h5, h6⟩ := hF.2.2.2.1
  have h3' : H[sa]? = some cell := by rw [hR.2.2 sa (Nat.not_le.mp h6)]; exact h3
  exact W.getf hx hb hown (hts _ hw) h1 h2 h3' h4 h5 rfl rfl hd kk
set_option maxRecDepth 100000 in
theorem rx_alen (M : rx_M G sa va p s m args meth c own cc nL) (hR : ax_R G g n H) (hd : decode cc pc = .ok (.arraylength, 1))
    (kk : W p l e R s m args below meth c H locs 0 0 Q (F0 m (pc + 1) ls (.int 14 :: rest))) : W p l e R s m args below meth c H locs 0 0 Q (F0 m pc ls (.ref va :: rest)) := by
  obtain ⟨⟨hx, hb, hml, hown, hts, -, hX⟩, hF⟩ := M
  obtain ⟨cell, h1, h2, h3, h4, h5, h6, h7⟩ := hF.2.2.2.2
  have h1' : H[va]? = some cell := by rw [hR.2.2 va (Nat.not_le.mp h7)]; exact h1
  exact W.alen (n := 14) hx hb h1' h2 (h5.trans (by decide)) rfl rfl hd kk
set_option maxRecDepth 100000 in
theorem rx_bald (M : rx_M G sa va p s m args meth c own cc nL) (hR : ax_R G g n H) {i : Int32} {j : Nat} (hj : j < 14) (h0 : ¬ i < 0) (hi : i.toNatClampNeg = j) (hd : decode cc pc = .ok (.baload, 1))
    (kk : W p l e R s m args below meth c H locs 0 0 Q (F0 m (pc + 1) ls (.int (sx_L.getD j 0) :: rest))) : W p l e R s m args below meth c H locs 0 0 Q (F0 m pc ls (.int i :: .ref va :: rest)) := by
  obtain ⟨⟨hx, hb, hml, hown, hts, -, hX⟩, hF⟩ := M
  obtain ⟨cell, h1, h2, h3, h4, h5, h6, h7⟩ := hF.2.2.2.2
  have h1' : H[va]? = some cell := by rw [hR.2.2 va (Nat.not_le.mp h7)]; exact h1
  subst hi
  exact W.bald hx hb h1' h2 h3 (fun q => q.elim h0 (fun q => by omega)) (h6 _ hj) rfl rfl hd kk
set_option maxRecDepth 100000 in
theorem rx_coder : rx_Met l G sa va ⟨"java/lang/String", "coder", "()B"⟩ prog_16_method_152_code 1 (some .byte) d [.ref sa] g n (.int 0) := by
  refine rx_met (by decide +kernel) (Nat.le_of_ble_eq_true rfl) fun p e s m args below meth c M hrt ls H locs hl hR hL => ?_
  obtain ⟨⟨hx, hb, hml, hown, hts, hlk, hX⟩, hF⟩ := id M
  refine rx_gets M hR (rx_in (by decide +kernel) (by decide +kernel)) (idx := 38) (by decide +kernel) ?_
  refine lv_if_eq hx hb (off := 10) (tgt := 13) (by decide +kernel) rfl (fun h => absurd h (by decide)) fun _ => ?_
  refine lv_aload_n (k := 0) hx hb (by decide +kernel) rfl (lv_at hl 0 rfl) ?_
  refine rx_getc M hR (rx_in (by decide +kernel) (by decide +kernel)) (idx := 15) (by decide +kernel) ?_
  refine lv_goto (off := 4) (tgt := 14) hx hb (by decide +kernel) rfl ?_
  exact W.zret hx hb hrt (by decide) (fun t ht hW => ⟨rfl, by rw [ht]; exact hR⟩) hL (by decide +kernel) hlk
set_option maxRecDepth 100000 in
theorem rx_isLatin : rx_Met l G sa va ⟨"java/lang/String", "isLatin1", "()Z"⟩ prog_16_method_154_code 1 (some .boolean) d [.ref sa] g n (.int 1) := by
  refine rx_met (by decide +kernel) (Nat.le_of_ble_eq_true rfl) fun p e s m args below meth c M hrt ls H locs hl hR hL => ?_
  obtain ⟨⟨hx, hb, hml, hown, hts, hlk, hX⟩, hF⟩ := id M
  refine rx_gets M hR (rx_in (by decide +kernel) (by decide +kernel)) (idx := 38) (by decide +kernel) ?_
  refine lv_if_eq hx hb (off := 14) (tgt := 17) (by decide +kernel) rfl (fun h => absurd h (by decide)) fun _ => ?_
  refine lv_aload_n (k := 0) hx hb (by decide +kernel) rfl (lv_at hl 0 rfl) ?_
  refine rx_getc M hR (rx_in (by decide +kernel) (by decide +kernel)) (idx := 15) (by decide +kernel) ?_
  refine lv_if_ne hx hb (off := 7) (tgt := 17) (by decide +kernel) rfl (fun h => absurd rfl h) fun _ => ?_
  refine lv_iconst (n := 1) hx hb (by decide +kernel) rfl ?_
  refine lv_goto (off := 4) (tgt := 18) hx hb (by decide +kernel) rfl ?_
  exact W.zret hx hb hrt (by decide) (fun t ht hW => ⟨rfl, by rw [ht]; exact hR⟩) hL (by decide +kernel) hlk
set_option maxRecDepth 100000 in
theorem rx_length (hd : 1 ≤ d) : rx_Met l G sa va ⟨"java/lang/String", "length", "()I"⟩ prog_16_method_54_code 1 (some .int) d [.ref sa] g n (.int 14) := by
  refine rx_met (by decide +kernel) (Nat.le_of_ble_eq_true rfl) fun p e s m args below meth c M hrt ls H locs hl hR hL => ?_
  obtain ⟨⟨hx, hb, hml, hown, hts, hlk, hX⟩, hF⟩ := id M
  refine lv_aload_n (k := 0) hx hb (by decide +kernel) rfl (lv_at hl 0 rfl) ?_
  refine rx_getv M hR (rx_in (by decide +kernel) (by decide +kernel)) (idx := 9) (by decide +kernel) ?_
  refine rx_alen M hR (by decide +kernel) ?_
  refine lv_aload_n (k := 0) hx hb (by decide +kernel) rfl (lv_at hl 0 rfl) ?_
  refine rx_callV M (rx_coder (d := d - 1)) (nA := 0) ⟨rx_in (by decide +kernel) (by decide +kernel), rx_in (by decide +kernel) (by decide +kernel), ⟨by decide, by decide, by decide +kernel⟩, by decide⟩ rfl (rx_in (by decide +kernel) (by decide +kernel)) (rx_in (by decide +kernel) (by decide +kernel)) (idx := 335) (rx_in (by decide +kernel) (by decide +kernel)) rfl (by show d - 1 + 1 ≤ d; omega) (by show 40 * (d - 1 + 1) ≤ 40 * d; omega) (rest := [.int 14]) (by decide) rfl (by decide +kernel) ?_ ls H locs hl hR hL
  intro ls H locs hl hR hL
  refine lv_ishr hx hb (by decide +kernel) ?_
  exact W.iret (v := 14) hx hb hrt (fun t ht hW => ⟨rfl, by rw [ht]; exact hR⟩) hL (by decide +kernel) hlk
set_option maxRecDepth 100000 in
theorem rx_can {x : Int32} (h1 : ¬ x < 0) (h2 : ¬ 255 < x) : rx_Met l G sa va ⟨"java/lang/StringLatin1", "canEncode", "(I)Z"⟩ prog_17_method_4_code 1 (some .boolean) d [.int x] g n (.int 1) := by
  refine rx_met (by decide +kernel) (Nat.le_of_ble_eq_true rfl) fun p e s m args below meth c M hrt ls H locs hl hR hL => ?_
  obtain ⟨⟨hx, hb, hml, hown, hts, hlk, hX⟩, hF⟩ := id M
  refine lv_iload_n (k := 0) hx hb (by decide +kernel) rfl (lv_at hl 0 rfl) ?_
  refine lv_if_lt hx hb (off := 14) (tgt := 15) (by decide +kernel) rfl (fun h => absurd h h1) fun _ => ?_
  refine lv_iload_n (k := 0) hx hb (by decide +kernel) rfl (lv_at hl 0 rfl) ?_
  refine lv_sipush (n := 255) (v := 255) hx hb (by decide +kernel) (by decide) ?_
  refine lv_icmp_gt hx hb (off := 7) (tgt := 15) (by decide +kernel) rfl (fun h => absurd h h2) fun _ => ?_
  refine lv_iconst (n := 1) hx hb (by decide +kernel) rfl ?_
  refine lv_goto (off := 4) (tgt := 16) hx hb (by decide +kernel) rfl ?_
  exact W.zret hx hb hrt (by decide) (fun t ht hW => ⟨rfl, by rw [ht]; exact hR⟩) hL (by decide +kernel) hlk
def rx_ix (b : Int32) : Nat → Nat → Int32
  | 0, _ => -1
  | f + 1, j => if sx_L.getD j 0 = b then Int32.ofNat j else rx_ix b f (j + 1)
set_option maxRecDepth 100000 in
theorem rx_n1 : ∀ j : Nat, j < 14 → ¬ (14 : Int32) ≤ Int32.ofNat j := by decide +kernel
set_option maxRecDepth 100000 in
theorem rx_n2 : ∀ j : Nat, j < 14 → ¬ Int32.ofNat j < 0 := by decide +kernel
set_option maxRecDepth 100000 in
theorem rx_n3 : ∀ j : Nat, j < 14 → (Int32.ofNat j).toNatClampNeg = j := by decide +kernel
set_option maxRecDepth 100000 in
theorem rx_n4 : ∀ j : Nat, j < 14 → Int32.ofNat j + Int32.ofInt 1 = Int32.ofNat (j + 1) := by decide +kernel
set_option maxRecDepth 100000 in
theorem rx_loop {x b : Int32} {r' : Int32} (M : rx_M G sa va p s m args meth c "java/lang/StringLatin1" prog_17_method_23_code 6) (hrt : meth.sig.returnType = some .int) : ∀ (f j : Nat), j + f = 14 → rx_ix b f j = r' →
    rx_W G p l e R s m args below meth c (MQ below (rx_Q G (.int r') g n) args s 0 0 (fun q => G.2.1 ≤ q)) 6 7 [(5, .int (Int32.ofNat j)), (4, .int b), (0, .ref va), (1, .int x), (2, .int 0), (3, .int 14)] [] g n := by
  obtain ⟨⟨hx, hb, hml, hown, hts, hlk, hX⟩, hF⟩ := id M
  intro f
  induction f with
  | zero =>
    intro j hj hr ls H locs hl hR hL
    obtain rfl : j = 14 := by omega
    refine lv_iload hx hb (by decide +kernel) (lv_at hl 0 rfl) ?_
    refine lv_iload_n (k := 3) hx hb (by decide +kernel) rfl (lv_at hl 5 rfl) ?_
    refine lv_icmp_ge hx hb (off := 21) (tgt := 31) (by decide +kernel) rfl (fun _ => ?_) (fun h => absurd (by decide) h)
    refine lv_iconst (n := -1) (v := r') hx hb (by decide +kernel) (Eq.trans (by decide : Int32.ofInt (-1) = (-1 : Int32)) hr) ?_
    exact W.iret hx hb hrt (fun t ht hW => ⟨rfl, by rw [ht]; exact hR⟩) hL (by decide +kernel) hlk
  | succ f ih =>
    intro j hj hr ls H locs hl hR hL
    have hj' : j < 14 := by omega
    refine lv_iload hx hb (by decide +kernel) (lv_at hl 0 rfl) ?_
    refine lv_iload_n (k := 3) hx hb (by decide +kernel) rfl (lv_at hl 5 rfl) ?_
    refine lv_icmp_ge hx hb (off := 21) (tgt := 31) (by decide +kernel) rfl (fun h => absurd h (rx_n1 j hj')) (fun _ => ?_)
    refine lv_aload_n (k := 0) hx hb (by decide +kernel) rfl (lv_at hl 2 rfl) ?_
    refine lv_iload hx hb (by decide +kernel) (lv_at hl 0 rfl) ?_
    refine rx_bald M hR hj' (rx_n2 j hj') (rx_n3 j hj') (by decide +kernel) ?_
    refine lv_iload hx hb (by decide +kernel) (lv_at hl 1 rfl) ?_
    rw [rx_ix] at hr
    refine lv_icmp_ne hx hb (off := 6) (tgt := 25) (by decide +kernel) rfl (fun h => ?_) (fun h => ?_)
    · rw [if_neg h] at hr
      refine lv_iinc (k := 0) (n := 1) (nL := 6) hx hb (by decide +kernel) hl rfl (rx_n4 j hj') (by decide) rfl fun ls hl => ?_
      refine lv_goto (off := -21) (tgt := 7) hx hb (by decide +kernel) rfl ?_
      exact ih (j + 1) (by omega) hr ls H locs hl hR hL
    · rw [if_pos h] at hr
      refine lv_iload hx hb (by decide +kernel) (lv_at hl 0 rfl) ?_
      subst hr
      exact W.iret hx hb hrt (fun t ht hW => ⟨rfl, by rw [ht]; exact hR⟩) hL (by decide +kernel) hlk
set_option maxRecDepth 100000 in
theorem rx_ofChar {x b : Int32} (hxb : x.toInt8.toInt32 = b) : rx_Met l G sa va ⟨"java/lang/StringLatin1", "indexOfChar", "([BIII)I"⟩ prog_17_method_23_code 6 (some .int) d [.ref va, .int x, .int 0, .int 14] g n (.int (rx_ix b 14 0)) := by
  refine rx_met (by decide +kernel) (Nat.le_of_ble_eq_true rfl) fun p e s m args below meth c M hrt ls H locs hl hR hL => ?_
  obtain ⟨⟨hx, hb, hml, hown, hts, hlk, hX⟩, hF⟩ := id M
  refine lv_iload_n (k := 1) hx hb (by decide +kernel) rfl (lv_at hl 1 rfl) ?_
  refine lv_i2b hx hb (by decide +kernel) hxb ?_
  refine lv_istore (i := 4) (nL := 6) hx hb (by decide +kernel) hl (by decide) rfl fun ls hl => ?_
  refine lv_iload_n (k := 2) hx hb (by decide +kernel) rfl (lv_at hl 3 rfl) ?_
  refine lv_istore (i := 5) (nL := 6) hx hb (by decide +kernel) hl (by decide) rfl fun ls hl => ?_
  exact rx_loop (x := x) (b := b) M hrt 14 0 rfl rfl ls H locs hl hR hL
set_option maxRecDepth 100000 in
theorem rx_l1 {x b : Int32} (hd : 1 ≤ d) (hxb : x.toInt8.toInt32 = b) (h1 : ¬ x < 0) (h2 : ¬ 255 < x) : rx_Met l G sa va ⟨"java/lang/StringLatin1", "indexOf", "([BIII)I"⟩ prog_17_method_22_code 4 (some .int) d [.ref va, .int x, .int 0, .int 14] g n (.int (rx_ix b 14 0)) := by
  refine rx_met (by decide +kernel) (Nat.le_of_ble_eq_true rfl) fun p e s m args below meth c M hrt ls H locs hl hR hL => ?_
  obtain ⟨⟨hx, hb, hml, hown, hts, hlk, hX⟩, hF⟩ := id M
  refine lv_iload_n (k := 1) hx hb (by decide +kernel) rfl (lv_at hl 1 rfl) ?_
  refine rx_callS M (rx_can (d := d - 1) h1 h2) (nA := 1) ⟨rx_in (by decide +kernel) (by decide +kernel), rx_in (by decide +kernel) (by decide +kernel), ⟨by decide, by decide, by decide +kernel⟩, by decide⟩ (rx_in (by decide +kernel) (by decide +kernel)) (idx := 88) (rx_in (by decide +kernel) (by decide +kernel)) rfl (by show d - 1 + 1 ≤ d; omega) (by show 40 * (d - 1 + 1) ≤ 40 * d; omega) (rest := []) (by decide) rfl (by decide +kernel) ?_ ls H locs hl hR hL
  intro ls H locs hl hR hL
  refine lv_if_ne hx hb (off := 5) (tgt := 9) (by decide +kernel) rfl (fun _ => ?_) (fun h => absurd h (by decide))
  refine lv_iload_n (k := 2) hx hb (by decide +kernel) rfl (lv_at hl 2 rfl) ?_
  refine lv_iconst (n := 0) hx hb (by decide +kernel) rfl ?_
  refine va_mmax (index := 92) hx hb (by rw [hml]; exact hl.1.symm) hown (hts _ (rx_in (by decide +kernel) (by decide +kernel))) (hts _ (rx_in (by decide +kernel) (by decide +kernel))) (hts _ (rx_in (by decide +kernel) (by decide +kernel))) (hts _ (rx_in (by decide +kernel) (by decide +kernel))) hd (by show 0 + 13 ≤ 40 * d; omega) (Nat.zero_le _) (Nat.zero_le _) (by decide +kernel) ?_
  refine lv_istore_n (k := 2) (i := 2) (nL := 4) hx hb (by decide +kernel) rfl hl (by decide) rfl fun ls hl => ?_
  refine lv_iload_n (k := 3) hx hb (by decide +kernel) rfl (lv_at hl 3 rfl) ?_
  refine lv_aload_n (k := 0) hx hb (by decide +kernel) rfl (lv_at hl 1 rfl) ?_
  refine rx_alen M hR (by decide +kernel) ?_
  refine va_mmin (index := 38) hx hb (by rw [hml]; exact hl.1.symm) hown (hts _ (rx_in (by decide +kernel) (by decide +kernel))) (hts _ (rx_in (by decide +kernel) (by decide +kernel))) (hts _ (rx_in (by decide +kernel) (by decide +kernel))) (hts _ (rx_in (by decide +kernel) (by decide +kernel))) hd (by show 0 + 13 ≤ 40 * d; omega) (Nat.zero_le _) (Nat.zero_le _) (by decide +kernel) ?_
  refine lv_istore_n (k := 3) (i := 3) (nL := 4) hx hb (by decide +kernel) rfl hl (by decide) rfl fun ls hl => ?_
  refine lv_iload_n (k := 2) (x := 0) hx hb (by decide +kernel) rfl (lv_at hl 1 rfl) ?_
  refine lv_iload_n (k := 3) (x := 14) hx hb (by decide +kernel) rfl (lv_at hl 0 rfl) ?_
  refine lv_icmp_lt hx hb (off := 5) (tgt := 29) (by decide +kernel) rfl (fun _ => ?_) (fun h => absurd (by decide) h)
  refine lv_aload_n (k := 0) hx hb (by decide +kernel) rfl (lv_at hl 2 rfl) ?_
  refine lv_iload_n (k := 1) hx hb (by decide +kernel) rfl (lv_at hl 3 rfl) ?_
  refine lv_iload_n (k := 2) (x := 0) hx hb (by decide +kernel) rfl (lv_at hl 1 rfl) ?_
  refine lv_iload_n (k := 3) (x := 14) hx hb (by decide +kernel) rfl (lv_at hl 0 rfl) ?_
  refine rx_callS M (rx_ofChar (d := d - 1) hxb) (nA := 4) ⟨rx_in (by decide +kernel) (by decide +kernel), rx_in (by decide +kernel) (by decide +kernel), ⟨by decide, by decide, by decide +kernel⟩, by decide⟩ (rx_in (by decide +kernel) (by decide +kernel)) (idx := 95) (rx_in (by decide +kernel) (by decide +kernel)) rfl (by show d - 1 + 1 ≤ d; omega) (by show 40 * (d - 1 + 1) ≤ 40 * d; omega) (rest := []) (by decide) rfl (by decide +kernel) ?_ ls H locs hl hR hL
  intro ls H locs hl hR hL
  exact W.iret hx hb hrt (fun t ht hW => ⟨rfl, by rw [ht]; exact hR⟩) hL (by decide +kernel) hlk
set_option maxRecDepth 100000 in
theorem rx_ii {x b : Int32} (hd : 2 ≤ d) (hxb : x.toInt8.toInt32 = b) (h1 : ¬ x < 0) (h2 : ¬ 255 < x) : rx_Met l G sa va ⟨"java/lang/String", "indexOf", "(II)I"⟩ prog_16_method_80_code 3 (some .int) d [.ref sa, .int x, .int 0] g n (.int (rx_ix b 14 0)) := by
  refine rx_met (by decide +kernel) (Nat.le_of_ble_eq_true rfl) fun p e s m args below meth c M hrt ls H locs hl hR hL => ?_
  obtain ⟨⟨hx, hb, hml, hown, hts, hlk, hX⟩, hF⟩ := id M
  refine lv_aload_n (k := 0) hx hb (by decide +kernel) rfl (lv_at hl 0 rfl) ?_
  refine rx_callV M (rx_isLatin (d := d - 1)) (nA := 0) ⟨rx_in (by decide +kernel) (by decide +kernel), rx_in (by decide +kernel) (by decide +kernel), ⟨by decide, by decide, by decide +kernel⟩, by decide⟩ rfl (rx_in (by decide +kernel) (by decide +kernel)) (rx_in (by decide +kernel) (by decide +kernel)) (idx := 492) (rx_in (by decide +kernel) (by decide +kernel)) rfl (by show d - 1 + 1 ≤ d; omega) (by show 40 * (d - 1 + 1) ≤ 40 * d; omega) (rest := []) (by decide) rfl (by decide +kernel) ?_ ls H locs hl hR hL
  intro ls H locs hl hR hL
  refine lv_if_eq hx hb (off := 19) (tgt := 23) (by decide +kernel) rfl (fun h => absurd h (by decide)) fun _ => ?_
  refine lv_aload_n (k := 0) hx hb (by decide +kernel) rfl (lv_at hl 0 rfl) ?_
  refine rx_getv M hR (rx_in (by decide +kernel) (by decide +kernel)) (idx := 9) (by decide +kernel) ?_
  refine lv_iload_n (k := 1) hx hb (by decide +kernel) rfl (lv_at hl 1 rfl) ?_
  refine lv_iload_n (k := 2) hx hb (by decide +kernel) rfl (lv_at hl 2 rfl) ?_
  refine lv_aload_n (k := 0) hx hb (by decide +kernel) rfl (lv_at hl 0 rfl) ?_
  refine rx_callV M (rx_length (d := d - 1) (by omega)) (nA := 0) ⟨rx_in (by decide +kernel) (by decide +kernel), rx_in (by decide +kernel) (by decide +kernel), ⟨by decide, by decide, by decide +kernel⟩, by decide⟩ rfl (rx_in (by decide +kernel) (by decide +kernel)) (rx_in (by decide +kernel) (by decide +kernel)) (idx := 505) (rx_in (by decide +kernel) (by decide +kernel)) rfl (by show d - 1 + 1 ≤ d; omega) (by show 40 * (d - 1 + 1) ≤ 40 * d; omega) (rest := [.int 0, .int x, .ref va]) (by show 1 + (1 + (1 + 0)) ≤ 8; decide) rfl (by decide +kernel) ?_ ls H locs hl hR hL
  intro ls H locs hl hR hL
  refine rx_callS M (rx_l1 (d := d - 1) (by omega) hxb h1 h2) (nA := 4) ⟨rx_in (by decide +kernel) (by decide +kernel), rx_in (by decide +kernel) (by decide +kernel), ⟨by decide, by decide, by decide +kernel⟩, by decide⟩ (rx_in (by decide +kernel) (by decide +kernel)) (idx := 637) (rx_in (by decide +kernel) (by decide +kernel)) rfl (by show d - 1 + 1 ≤ d; omega) (by show 40 * (d - 1 + 1) ≤ 40 * d; omega) (rest := []) (by decide) rfl (by decide +kernel) ?_ ls H locs hl hR hL
  intro ls H locs hl hR hL
  refine lv_goto (off := 16) (tgt := 36) hx hb (by decide +kernel) rfl ?_
  exact W.iret hx hb hrt (fun t ht hW => ⟨rfl, by rw [ht]; exact hR⟩) hL (by decide +kernel) hlk
set_option maxRecDepth 100000 in
theorem rx_i {x b : Int32} (hd : 3 ≤ d) (hxb : x.toInt8.toInt32 = b) (h1 : ¬ x < 0) (h2 : ¬ 255 < x) : rx_Met l G sa va ⟨"java/lang/String", "indexOf", "(I)I"⟩ prog_16_method_79_code 2 (some .int) d [.ref sa, .int x] g n (.int (rx_ix b 14 0)) := by
  refine rx_met (by decide +kernel) (Nat.le_of_ble_eq_true rfl) fun p e s m args below meth c M hrt ls H locs hl hR hL => ?_
  obtain ⟨⟨hx, hb, hml, hown, hts, hlk, hX⟩, hF⟩ := id M
  refine lv_aload_n (k := 0) hx hb (by decide +kernel) rfl (lv_at hl 0 rfl) ?_
  refine lv_iload_n (k := 1) hx hb (by decide +kernel) rfl (lv_at hl 1 rfl) ?_
  refine lv_iconst (n := 0) hx hb (by decide +kernel) rfl ?_
  refine rx_callV M (rx_ii (d := d - 1) (by omega) hxb h1 h2) (nA := 2) ⟨rx_in (by decide +kernel) (by decide +kernel), rx_in (by decide +kernel) (by decide +kernel), ⟨by decide, by decide, by decide +kernel⟩, by decide⟩ rfl (rx_in (by decide +kernel) (by decide +kernel)) (rx_in (by decide +kernel) (by decide +kernel)) (idx := 633) (rx_in (by decide +kernel) (by decide +kernel)) rfl (by show d - 1 + 1 ≤ d; omega) (by show 40 * (d - 1 + 1) ≤ 40 * d; omega) (rest := []) (by decide) rfl (by decide +kernel) ?_ ls H locs hl hR hL
  intro ls H locs hl hR hL
  exact W.iret hx hb hrt (fun t ht hW => ⟨rfl, by rw [ht]; exact hR⟩) hL (by decide +kernel) hlk
set_option maxRecDepth 100000 in
theorem rx_ldcW {tx : String} {q : Nat} (hexec : p.tables.exec = Jvm.exec) (hb : c.code = cc) (hown : s.vm.findClass own = some m.cls) (hZ : vk_R own idx tx q s) (hdg : decode cc pc = .ok (.ldc_w idx, 3))
    (k : W p l e R s m args below meth c H locs 0 0 Q (F0 m (pc + 3) ls (.ref q :: rest))) : W p l e R s m args below meth c H locs 0 0 Q (F0 m pc ls rest) := by
  intro T hT X
  obtain ⟨t, a1, b1⟩ := k T hT X
  refine ⟨t, ?_, b1⟩
  have hconst : (Cond.stringRef own idx tx).before args s = true := hZ.1
  obtain ⟨k, cf, i, a', hk, hcf, hcp, -, hr, hev'⟩ := Cond.stringRef_spec hown hconst
  have hev : (Term.string own idx).eval args s none [] s = some (.ref q) := hZ.2
  cases hev.symm.trans hev'
  obtain ⟨k', hk', he⟩ := X.warmed.alike.2.2 _ _ hk
  have hr' : k'.resolved[idx]? = some (some (.string q)) := by
    rcases X.warmed.entry hk hk' idx with h | ⟨h, -⟩
    · rw [h]; exact hr
    · rw [hr] at h; cases h
  jvm_step X.here [hexec, hb, hdg, ldc_w.wp_string (e := e) (s := T) (f := F0 m pc ls rest) X.here.top hk' (by rw [he]; exact hcf) hcp hr']
  exact a1
end RX
set_option maxRecDepth 100000 in
theorem rx_k1 : ∀ k : Nat, k < 256 → ((Int32.ofNat k).toUInt32 % 65536).toInt32 = Int32.ofNat k := by decide +kernel
set_option maxRecDepth 100000 in
theorem rx_k2 : ∀ k : Nat, k < 256 → ¬ Int32.ofNat k < 0 ∧ ¬ 255 < Int32.ofNat k := by decide +kernel
set_option maxRecDepth 100000 in
theorem rx_k3 : ∀ k : Nat, k < 256 → ((k : Int) ∈ ab_let ∧ 0 ≤ (rx_ix (Int32.ofNat k).toInt8.toInt32 14 0).toInt ∧ (rx_ix (Int32.ofNat k).toInt8.toInt32 14 0).toInt ≤ 13) ∨ ((k : Int) ∉ ab_let ∧ (rx_ix (Int32.ofNat k).toInt8.toInt32 14 0).toInt = -1) := by decide +kernel
set_option maxRecDepth 100000 in
theorem sgn_ok {l : Launch} {G : ax_T} : SGN l G := by
  intro d h n x hd _ hW h0 h255
  obtain ⟨k, hk, rfl⟩ : ∃ k : Nat, k < 256 ∧ Int32.ofNat k = x := ⟨x.toInt.toNat, by omega, by
    apply Int32.toInt_inj.mp
    rw [Int32.toInt_ofNat_of_lt (by omega)]
    omega⟩
  have hki : (Int32.ofNat k).toInt = (k : Int) := Int32.toInt_ofNat_of_lt (by omega)
  refine ⟨(some (.int (rx_ix (Int32.ofNat k).toInt8.toInt32 14 0)), h, n), ⟨?_, fun e => by cases e⟩, rfl, rfl, _, rfl, by rw [hki]; exact rx_k3 k hk⟩
  show Met l yX10_signOf (Cond.code yX10_signOf cX10_signOf 1 (some .int) :: ax_G) (ax_rm d 0 0) (ax_Pc G [.int (Int32.ofNat k)] (ax_hget h) n) (ax_Qc G (some (.int (rx_ix (Int32.ofNat k).toInt8.toInt32 14 0))) (ax_hget h) n) 0 0 (fun q => G.2.1 ≤ q)
  refine Met.ofW (cc := cX10_signOf) (maxL := 1) (ret := some .int) (by decide +kernel) rfl ?_
  intro p e s m args below meth c s₁ B hml hv
  obtain ⟨rfl, hX, hR⟩ := hv
  have hts := atoms_spec (ws := Cond.code yX10_signOf cX10_signOf 1 (some .int) :: ax_G) B.pre
  have hown : s.vm.findClass "LetterSums" = some m.cls := findClass_of_methodNamed B.named
  have M : ax_M G p s m ([Value.int (Int32.ofNat k)]).toArray meth c "LetterSums" cX10_signOf 1 := ⟨B.exec, B.bytes, hml, hown, fun w hw => hts w (List.mem_cons_of_mem _ hw), B.notSynchronized, hX⟩
  obtain ⟨sa, va, hS, hF⟩ := hX.2.2.1.2.2.2
  have hl := lv_entry [Value.int (Int32.ofNat k)] (n := 1) (Nat.le_of_ble_eq_true rfl)
  show W p l e (ax_rm d 0 0) s m ([Value.int (Int32.ofNat k)]).toArray below meth c s.heap [] 0 0 (MQ below (ax_Qc G (some (.int (rx_ix (Int32.ofNat k).toInt8.toInt32 14 0))) (ax_hget h) n) ([Value.int (Int32.ofNat k)]).toArray s 0 0 (fun q => G.2.1 ≤ q)) (entryFrame m ([Value.int (Int32.ofNat k)]).toArray 1)
  rw [lg_entry_eq]
  have hrt := B.returns
  have hlk := B.notSynchronized
  have hx := B.exec
  have hb := B.bytes
  have hL : ∀ q ∈ ([] : List Loc), G.2.1 ≤ q.base := fun q hq => by cases hq
  refine rx_ldcW hx hb hown hS (by decide +kernel) ?_
  refine lv_iload_n (k := 0) hx hb (by decide +kernel) rfl (lv_at hl 0 rfl) ?_
  refine lv_i2c hx hb (by decide +kernel) (rx_k1 k hk) ?_
  refine rx_callV (lv := [(0, .int (Int32.ofNat k))]) ⟨M, hF⟩ (rx_i (d := d - 1) (by omega) rfl (rx_k2 k hk).1 (rx_k2 k hk).2) (nA := 1) ⟨rx_in (by decide +kernel) (by decide +kernel), rx_in (by decide +kernel) (by decide +kernel), ⟨by decide, by decide, by decide +kernel⟩, by decide⟩ rfl (rx_in (by decide +kernel) (by decide +kernel)) (rx_in (by decide +kernel) (by decide +kernel)) (idx := 316) (rx_in (by decide +kernel) (by decide +kernel)) rfl (by show d - 1 + 1 ≤ d; omega) (by show 40 * (d - 1 + 1) ≤ 40 * d; omega) (rest := []) (by decide) rfl (by decide +kernel) ?_ _ s.heap [] hl hR hL
  intro ls H locs hl hR hL
  exact W.iret hx hb hrt (fun t ht hW => ⟨rfl, by rw [ht]; exact hR⟩) hL (by decide +kernel) hlk
end
section
/-! ===== each public call ends, and leaves cells that are as their kinds say (printed by wip/safe/mkpub.py) ===== -/
def pb_int (P : ab_S) : Bool := match P.2.1 with
  | [a] => (ab_iv P.2.2.1 a).isSome
  | _ => false
def pb_long (P : ab_S) : Bool := match P.2.1 with
  | [a] => (match ab_kd P.2.2.1 a with
    | some d => Nat.beq d 2
    | none => false)
  | _ => false
/-- all but some places stand -/
def pb_f (M : List (Nat × Int)) (n : Nat) (h h' : ax_H) : Prop := ∀ k, k < n → ∀ i : Int, 0 ≤ i → ab_md M (ab_k k) i = false → ab_rd h' k i = ab_rd h k i
theorem pb_f_of {M : List (Nat × Int)} {n : Nat} {h h' : ax_H} (hf : ab_fr M n h h') : pb_f M n h h' := fun k hk i _ hm => hf k hk i hm
/-- some places stand -/
def kpt (L : List (Nat × Int)) (h h' : ax_H) : Prop := ∀ q ∈ L, ab_rd h' q.1 q.2 = ab_rd h q.1 q.2
def kp_md (L M : List (Nat × Int)) : Bool := L.all fun q => Nat.blt q.1 573 && (decide (0 ≤ q.2) && !(ab_md M (ab_k q.1) q.2))
theorem kp_of {L M : List (Nat × Int)} {h h' : ax_H} {n : Nat} (hm : kp_md L M = true) (hf : pb_f M n h h') (hn : 573 ≤ n) : kpt L h h' := by
  intro q hq
  have h1 := List.all_eq_true.mp hm q hq
  simp only [Bool.and_eq_true, Nat.blt_eq, decide_eq_true_eq, Bool.not_eq_true'] at h1
  exact hf q.1 (by omega) q.2 h1.2.1 h1.2.2
/-- a call ends with an int; some places stand -/
def pb_S (l : Launch) (G : ax_T) (mi : ax_MI) (as : List Value) (h : ax_H) (n : Nat) (M : List (Nat × Int)) : Prop := ∃ (x : Int32) (h' : ax_H) (n' : Nat), ab_M l G 40 mi as h n (some (.int x), h', n') ∧ ab_HT h' n' ∧ pb_f M n h h'
def pb_L (l : Launch) (G : ax_T) (mi : ax_MI) (as : List Value) (h : ax_H) (n : Nat) (M : List (Nat × Int)) : Prop := ∃ (x : Int64) (h' : ax_H) (n' : Nat), ab_M l G 40 mi as h n (some (.long x), h', n') ∧ ab_HT h' n' ∧ pb_f M n h h'
section PB
variable {l : Launch} {G : ax_T} {h : ax_H} {n : Nat} {Q : ab_Q} {mi : ax_MI} {Γ : List ab_Y} {vs : List ab_V} {V as : List Value}
theorem pb_go (hQ : ab_QOk l G mt_prog Q) (hmi : mt_prog[Q.1]? = some mi) (hd : Nat.ble Q.2.1 40 = true) (hp : Q.2.2.1 = (ab_args Γ 0 vs, [], Γ, [], [], [], 0, 0)) (hs : ab_stR V vs as) (hΓ : ab_ty n V Γ) (hl : Nat.ble (ax_sum as) mi.2.2.2.1 = true) (hH : ab_HT h n) :
    ∃ o, ab_M l G 40 mi as h n o ∧ ab_HT o.2.1 o.2.2 ∧ pb_f Q.2.2.2.1 n h o.2.1 ∧ ∃ P ∈ Q.2.2.2.2, ∃ V', ab_ty o.2.2 V' P.2.2.1 ∧ ab_stR V' P.2.1 o.1.toList := by
  have hg : ab_g (V, h, n, Q.2.2.2.1) Q.2.2.1 V (lv_args 0 as) [] h n 0 0 := by
    rw [hp]
    exact ⟨ab_args_ok hΓ 0 hs, trivial, hΓ, fun q hq => (nomatch hq), fun q hq => (nomatch hq), fun q hq => (nomatch hq), ⟨rfl, rfl⟩, ⟨hH, fun k _ i _ => rfl, Nat.le_refl _⟩, fun u v hu => hu⟩
  obtain ⟨o, hM, P, hP, V', c', s', hg'⟩ := hQ mi hmi 40 (by simpa [Nat.ble_eq] using hd) V as h n (by rw [ab_sl_sum]; simpa [Nat.ble_eq] using hl) hg
  obtain ⟨g1, g2, g3, g4, g5, g6, g7, g8, g9⟩ := hg'
  exact ⟨o, hM, g8.1, pb_f_of g8.2.1, P, hP, V', g3, g2⟩
theorem pb_i (hQ : ab_QOk l G mt_prog Q) (hmi : mt_prog[Q.1]? = some mi) (hd : Nat.ble Q.2.1 40 = true) (hp : Q.2.2.1 = (ab_args Γ 0 vs, [], Γ, [], [], [], 0, 0)) (hs : ab_stR V vs as) (hΓ : ab_ty n V Γ) (hl : Nat.ble (ax_sum as) mi.2.2.2.1 = true) (hpo : Q.2.2.2.2.all pb_int = true) (hH : ab_HT h n) : pb_S l G mi as h n Q.2.2.2.1 := by
  obtain ⟨⟨r, h', n'⟩, hM, k1, k2, P, hP, V', k3, k4⟩ := pb_go hQ hmi hd hp hs hΓ hl hH
  have hb := List.all_eq_true.mp hpo P hP
  unfold pb_int at hb
  split at hb
  · rename_i a ha
    rw [ha] at k4
    obtain ⟨q, hq⟩ := Option.isSome_iff_exists.mp hb
    cases r with
    | none => exact k4.elim
    | some v =>
      obtain ⟨x, e, -⟩ := ab_iv_ok k3 hq k4.1
      subst e
      exact ⟨x, h', n', hM, k1, k2⟩
  · cases hb
theorem pb_l (hQ : ab_QOk l G mt_prog Q) (hmi : mt_prog[Q.1]? = some mi) (hd : Nat.ble Q.2.1 40 = true) (hp : Q.2.2.1 = (ab_args Γ 0 vs, [], Γ, [], [], [], 0, 0)) (hs : ab_stR V vs as) (hΓ : ab_ty n V Γ) (hl : Nat.ble (ax_sum as) mi.2.2.2.1 = true) (hpo : Q.2.2.2.2.all pb_long = true) (hH : ab_HT h n) : pb_L l G mi as h n Q.2.2.2.1 := by
  obtain ⟨⟨r, h', n'⟩, hM, k1, k2, P, hP, V', k3, k4⟩ := pb_go hQ hmi hd hp hs hΓ hl hH
  have hb := List.all_eq_true.mp hpo P hP
  unfold pb_long at hb
  split at hb
  · rename_i a ha
    rw [ha] at k4
    split at hb
    · rename_i d hd'
      have e2 : d = 2 := by simpa [Nat.beq_eq] using hb
      subst e2
      cases r with
      | none => exact k4.elim
      | some v =>
        obtain ⟨x, e⟩ := ab_kd2 k3 k4.1 hd'
        subst e
        exact ⟨x, h', n', hM, k1, k2⟩
    · cases hb
  · cases hb
theorem pb_ty (n : Nat) : ∀ xs : List Int32, ab_ty n (xs.map Value.int) (xs.map fun _ => ab_top)
  | [] => ⟨rfl, fun u τ hu => by simp at hu⟩
  | x :: xs => by
    have ih := pb_ty n xs
    refine ⟨by simp, fun u τ hu => ?_⟩
    cases u with
    | zero =>
      simp only [List.map_cons, List.getElem?_cons_zero, Option.some.injEq] at hu
      subst hu
      exact ⟨.int x, rfl, ab_top_ok n x⟩
    | succ u =>
      simp only [List.map_cons, List.getElem?_cons_succ] at hu ⊢
      exact ih.2 u τ hu
theorem pb_X10_letters (H : ab_Hand l G) (hH : ab_HT h n) (w : Int64) : pb_S l G mt_X10_letters [.ref 0, .long w] h n cq_99.2.2.2.1 := pb_i (Q := cq_99) (Γ := [.inr none]) (vs := [av_k 0, av_s 0]) (V := [.long w]) (cy_222 H 99 cq_99 (by decide) rfl) mi_X10_letters rfl rfl ⟨rfl, rfl, trivial⟩ ⟨rfl, fun u τ hu => by cases u with | zero => (simp only [List.getElem?_cons_zero, Option.some.injEq] at hu; subst hu; exact ⟨.long w, rfl, w, rfl⟩) | succ u => simp at hu⟩ rfl rfl hH
theorem pb_X11_letters (H : ab_Hand l G) (hH : ab_HT h n) (w : Int64) : pb_S l G mt_X11_letters [.ref 542, .long w] h n cq_198.2.2.2.1 := pb_i (Q := cq_198) (Γ := [.inr none]) (vs := [av_k 542, av_s 0]) (V := [.long w]) (cy_222 H 198 cq_198 (by decide) rfl) mi_X11_letters rfl rfl ⟨rfl, rfl, trivial⟩ ⟨rfl, fun u τ hu => by cases u with | zero => (simp only [List.getElem?_cons_zero, Option.some.injEq] at hu; subst hu; exact ⟨.long w, rfl, w, rfl⟩) | succ u => simp at hu⟩ rfl rfl hH
theorem pb_X10_blank (H : ab_Hand l G) (hH : ab_HT h n)  : pb_S l G mt_X10_blank [.ref 0] h n cq_35.2.2.2.1 := pb_i (Q := cq_35) (Γ := []) (vs := [av_k 0]) (V := []) (cy_222 H 35 cq_35 (by decide) rfl) mi_X10_blank rfl rfl ⟨rfl, trivial⟩ (pb_ty n []) rfl rfl hH
theorem pb_X11_blank (H : ab_Hand l G) (hH : ab_HT h n)  : pb_S l G mt_X11_blank [.ref 542] h n cq_169.2.2.2.1 := pb_i (Q := cq_169) (Γ := []) (vs := [av_k 542]) (V := []) (cy_222 H 169 cq_169 (by decide) rfl) mi_X11_blank rfl rfl ⟨rfl, trivial⟩ (pb_ty n []) rfl rfl hH
theorem pb_X10_good (H : ab_Hand l G) (hH : ab_HT h n)  : pb_S l G mt_X10_good [.ref 0] h n cq_90.2.2.2.1 := pb_i (Q := cq_90) (Γ := []) (vs := [av_k 0]) (V := []) (cy_222 H 90 cq_90 (by decide) rfl) mi_X10_good rfl rfl ⟨rfl, trivial⟩ (pb_ty n []) rfl rfl hH
theorem pb_X11_good (H : ab_Hand l G) (hH : ab_HT h n)  : pb_S l G mt_X11_good [.ref 542] h n cq_183.2.2.2.1 := pb_i (Q := cq_183) (Γ := []) (vs := [av_k 542]) (V := []) (cy_222 H 183 cq_183 (by decide) rfl) mi_X11_good rfl rfl ⟨rfl, trivial⟩ (pb_ty n []) rfl rfl hH
theorem pb_X10_custom (H : ab_Hand l G) (hH : ab_HT h n)  : pb_S l G mt_X10_custom [.ref 0] h n cq_80.2.2.2.1 := pb_i (Q := cq_80) (Γ := []) (vs := [av_k 0]) (V := []) (cy_222 H 80 cq_80 (by decide) rfl) mi_X10_custom rfl rfl ⟨rfl, trivial⟩ (pb_ty n []) rfl rfl hH
theorem pb_X11_custom (H : ab_Hand l G) (hH : ab_HT h n)  : pb_S l G mt_X11_custom [.ref 542] h n cq_176.2.2.2.1 := pb_i (Q := cq_176) (Γ := []) (vs := [av_k 542]) (V := []) (cy_222 H 176 cq_176 (by decide) rfl) mi_X11_custom rfl rfl ⟨rfl, trivial⟩ (pb_ty n []) rfl rfl hH
theorem pb_X10_asks (H : ab_Hand l G) (hH : ab_HT h n) (a b c : Int32) : pb_S l G mt_X10_asks [.ref 0, .int a, .int b, .int c] h n cq_22.2.2.2.1 := pb_i (Q := cq_22) (Γ := [ab_top, ab_top, ab_top]) (vs := [av_k 0, av_s 0, av_s 1, av_s 2]) (V := [.int a, .int b, .int c]) (cy_222 H 22 cq_22 (by decide) rfl) mi_X10_asks rfl rfl ⟨rfl, rfl, rfl, rfl, trivial⟩ (pb_ty n [a, b, c]) rfl rfl hH
theorem pb_X11_asks (H : ab_Hand l G) (hH : ab_HT h n) (a b c : Int32) : pb_S l G mt_X11_asks [.ref 542, .int a, .int b, .int c] h n cq_164.2.2.2.1 := pb_i (Q := cq_164) (Γ := [ab_top, ab_top, ab_top]) (vs := [av_k 542, av_s 0, av_s 1, av_s 2]) (V := [.int a, .int b, .int c]) (cy_222 H 164 cq_164 (by decide) rfl) mi_X11_asks rfl rfl ⟨rfl, rfl, rfl, rfl, trivial⟩ (pb_ty n [a, b, c]) rfl rfl hH
theorem pb_X10_row (H : ab_Hand l G) (hH : ab_HT h n) (a : Int32) : pb_S l G mt_X10_row [.ref 0, .int a] h n cq_116.2.2.2.1 := pb_i (Q := cq_116) (Γ := [ab_top]) (vs := [av_k 0, av_s 0]) (V := [.int a]) (cy_222 H 116 cq_116 (by decide) rfl) mi_X10_row rfl rfl ⟨rfl, rfl, trivial⟩ (pb_ty n [a]) rfl rfl hH
theorem pb_X11_row (H : ab_Hand l G) (hH : ab_HT h n) (a : Int32) : pb_S l G mt_X11_row [.ref 542, .int a] h n cq_205.2.2.2.1 := pb_i (Q := cq_205) (Γ := [ab_top]) (vs := [av_k 542, av_s 0]) (V := [.int a]) (cy_222 H 205 cq_205 (by decide) rfl) mi_X11_row rfl rfl ⟨rfl, rfl, trivial⟩ (pb_ty n [a]) rfl rfl hH
theorem pb_X10_sign (H : ab_Hand l G) (hH : ab_HT h n) (a b : Int32) : pb_S l G mt_X10_sign [.ref 0, .int a, .int b] h n cq_119.2.2.2.1 := pb_i (Q := cq_119) (Γ := [ab_top, ab_top]) (vs := [av_k 0, av_s 0, av_s 1]) (V := [.int a, .int b]) (cy_222 H 119 cq_119 (by decide) rfl) mi_X10_sign rfl rfl ⟨rfl, rfl, rfl, trivial⟩ (pb_ty n [a, b]) rfl rfl hH
theorem pb_X11_sign (H : ab_Hand l G) (hH : ab_HT h n) (a b : Int32) : pb_S l G mt_X11_sign [.ref 542, .int a, .int b] h n cq_209.2.2.2.1 := pb_i (Q := cq_209) (Γ := [ab_top, ab_top]) (vs := [av_k 542, av_s 0, av_s 1]) (V := [.int a, .int b]) (cy_222 H 209 cq_209 (by decide) rfl) mi_X11_sign rfl rfl ⟨rfl, rfl, rfl, trivial⟩ (pb_ty n [a, b]) rfl rfl hH
theorem pb_X10_worth (H : ab_Hand l G) (hH : ab_HT h n) (a : Int32) : pb_S l G mt_X10_worth [.ref 0, .int a] h n cq_147.2.2.2.1 := pb_i (Q := cq_147) (Γ := [ab_top]) (vs := [av_k 0, av_s 0]) (V := [.int a]) (cy_222 H 147 cq_147 (by decide) rfl) mi_X10_worth rfl rfl ⟨rfl, rfl, trivial⟩ (pb_ty n [a]) rfl rfl hH
theorem pb_X11_worth (H : ab_Hand l G) (hH : ab_HT h n) (a : Int32) : pb_S l G mt_X11_worth [.ref 542, .int a] h n cq_219.2.2.2.1 := pb_i (Q := cq_219) (Γ := [ab_top]) (vs := [av_k 542, av_s 0]) (V := [.int a]) (cy_222 H 219 cq_219 (by decide) rfl) mi_X11_worth rfl rfl ⟨rfl, rfl, trivial⟩ (pb_ty n [a]) rfl rfl hH
theorem pb_X10_keeps (H : ab_Hand l G) (hH : ab_HT h n) (a b : Int32) : pb_S l G mt_X10_keeps [.ref 0, .int a, .int b] h n cq_95.2.2.2.1 := pb_i (Q := cq_95) (Γ := [ab_top, ab_top]) (vs := [av_k 0, av_s 0, av_s 1]) (V := [.int a, .int b]) (cy_222 H 95 cq_95 (by decide) rfl) mi_X10_keeps rfl rfl ⟨rfl, rfl, rfl, trivial⟩ (pb_ty n [a, b]) rfl rfl hH
theorem pb_X11_keeps (H : ab_Hand l G) (hH : ab_HT h n) (a b : Int32) : pb_S l G mt_X11_keeps [.ref 542, .int a, .int b] h n cq_196.2.2.2.1 := pb_i (Q := cq_196) (Γ := [ab_top, ab_top]) (vs := [av_k 542, av_s 0, av_s 1]) (V := [.int a, .int b]) (cy_222 H 196 cq_196 (by decide) rfl) mi_X11_keeps rfl rfl ⟨rfl, rfl, rfl, trivial⟩ (pb_ty n [a, b]) rfl rfl hH
theorem pb_X10_begins (H : ab_Hand l G) (hH : ab_HT h n) (a b : Int32) : pb_S l G mt_X10_begins [.ref 0, .int a, .int b] h n cq_34.2.2.2.1 := pb_i (Q := cq_34) (Γ := [ab_top, ab_top]) (vs := [av_k 0, av_s 0, av_s 1]) (V := [.int a, .int b]) (cy_222 H 34 cq_34 (by decide) rfl) mi_X10_begins rfl rfl ⟨rfl, rfl, rfl, trivial⟩ (pb_ty n [a, b]) rfl rfl hH
theorem pb_X11_begins (H : ab_Hand l G) (hH : ab_HT h n) (a b : Int32) : pb_S l G mt_X11_begins [.ref 542, .int a, .int b] h n cq_168.2.2.2.1 := pb_i (Q := cq_168) (Γ := [ab_top, ab_top]) (vs := [av_k 542, av_s 0, av_s 1]) (V := [.int a, .int b]) (cy_222 H 168 cq_168 (by decide) rfl) mi_X11_begins rfl rfl ⟨rfl, rfl, rfl, trivial⟩ (pb_ty n [a, b]) rfl rfl hH
theorem pb_X10_ways (H : ab_Hand l G) (hH : ab_HT h n) (a b : Int32) : pb_S l G mt_X10_ways [.ref 0, .int a, .int b] h n cq_146.2.2.2.1 := pb_i (Q := cq_146) (Γ := [ab_top, ab_top]) (vs := [av_k 0, av_s 0, av_s 1]) (V := [.int a, .int b]) (cy_222 H 146 cq_146 (by decide) rfl) mi_X10_ways rfl rfl ⟨rfl, rfl, rfl, trivial⟩ (pb_ty n [a, b]) rfl rfl hH
theorem pb_X11_ways (H : ab_Hand l G) (hH : ab_HT h n) (a b : Int32) : pb_S l G mt_X11_ways [.ref 542, .int a, .int b] h n cq_217.2.2.2.1 := pb_i (Q := cq_217) (Γ := [ab_top, ab_top]) (vs := [av_k 542, av_s 0, av_s 1]) (V := [.int a, .int b]) (cy_222 H 217 cq_217 (by decide) rfl) mi_X11_ways rfl rfl ⟨rfl, rfl, rfl, trivial⟩ (pb_ty n [a, b]) rfl rfl hH
theorem pb_X10_write (H : ab_Hand l G) (hH : ab_HT h n) (a b c d : Int32) : pb_S l G mt_X10_write [.ref 0, .int a, .int b, .int c, .int d] h n cq_158.2.2.2.1 := pb_i (Q := cq_158) (Γ := [ab_top, ab_top, ab_top, ab_top]) (vs := [av_k 0, av_s 0, av_s 1, av_s 2, av_s 3]) (V := [.int a, .int b, .int c, .int d]) (cy_222 H 158 cq_158 (by decide) rfl) mi_X10_write rfl rfl ⟨rfl, rfl, rfl, rfl, rfl, trivial⟩ (pb_ty n [a, b, c, d]) rfl rfl hH
theorem pb_X11_write (H : ab_Hand l G) (hH : ab_HT h n) (a b c d : Int32) : pb_S l G mt_X11_write [.ref 542, .int a, .int b, .int c, .int d] h n cq_220.2.2.2.1 := pb_i (Q := cq_220) (Γ := [ab_top, ab_top, ab_top, ab_top]) (vs := [av_k 542, av_s 0, av_s 1, av_s 2, av_s 3]) (V := [.int a, .int b, .int c, .int d]) (cy_222 H 220 cq_220 (by decide) rfl) mi_X11_write rfl rfl ⟨rfl, rfl, rfl, rfl, rfl, trivial⟩ (pb_ty n [a, b, c, d]) rfl rfl hH
theorem pb_X10_board (H : ab_Hand l G) (hH : ab_HT h n) (a b : Int32) : pb_S l G mt_X10_board [.ref 0, .int a, .int b] h n cq_36.2.2.2.1 := pb_i (Q := cq_36) (Γ := [ab_top, ab_top]) (vs := [av_k 0, av_s 0, av_s 1]) (V := [.int a, .int b]) (cy_222 H 36 cq_36 (by decide) rfl) mi_X10_board rfl rfl ⟨rfl, rfl, rfl, trivial⟩ (pb_ty n [a, b]) rfl rfl hH
theorem pb_X11_board (H : ab_Hand l G) (hH : ab_HT h n) (a b : Int32) : pb_S l G mt_X11_board [.ref 542, .int a, .int b] h n cq_170.2.2.2.1 := pb_i (Q := cq_170) (Γ := [ab_top, ab_top]) (vs := [av_k 542, av_s 0, av_s 1]) (V := [.int a, .int b]) (cy_222 H 170 cq_170 (by decide) rfl) mi_X11_board rfl rfl ⟨rfl, rfl, rfl, trivial⟩ (pb_ty n [a, b]) rfl rfl hH
theorem pb_X10_pour (H : ab_Hand l G) (hH : ab_HT h n) (a : Int32) {z : Int32} (hz : z = 0 ∨ z = 1) : pb_S l G mt_X10_pour [.ref 0, .int a, .int z] h n cq_112.2.2.2.1 := pb_i (Q := cq_112) (Γ := [ab_top, .inl (0, 1, 0)]) (vs := [av_k 0, av_s 0, av_s 1]) (V := [.int a, .int z]) (cy_222 H 112 cq_112 (by decide) rfl) mi_X10_pour rfl rfl ⟨rfl, rfl, rfl, trivial⟩ (by rcases hz with rfl | rfl <;> exact ab_ty_two (V := [.int a]) (pb_ty n [a]) ⟨rfl, fun u τ hu => by cases u with | zero => (simp only [List.getElem?_cons_zero, Option.some.injEq] at hu; subst hu; exact ⟨_, rfl, _, rfl, by decide, by decide, trivial⟩) | succ u => simp at hu⟩) rfl rfl hH
theorem pb_X10_bundle (H : ab_Hand l G) (hH : ab_HT h n) (a : Int32) : pb_S l G mt_X10_bundle [.ref 0, .int a] h n cq_37.2.2.2.1 := pb_i (Q := cq_37) (Γ := [ab_top]) (vs := [av_k 0, av_s 0]) (V := [.int a]) (cy_222 H 37 cq_37 (by decide) rfl) mi_X10_bundle rfl rfl ⟨rfl, rfl, trivial⟩ (pb_ty n [a]) rfl rfl hH
theorem pb_X11_bundle (H : ab_Hand l G) (hH : ab_HT h n) (a : Int32) : pb_S l G mt_X11_bundle [.ref 542, .int a] h n cq_171.2.2.2.1 := pb_i (Q := cq_171) (Γ := [ab_top]) (vs := [av_k 542, av_s 0]) (V := [.int a]) (cy_222 H 171 cq_171 (by decide) rfl) mi_X11_bundle rfl rfl ⟨rfl, rfl, trivial⟩ (pb_ty n [a]) rfl rfl hH
theorem pb_X10_unbundle (H : ab_Hand l G) (hH : ab_HT h n) (a : Int32) : pb_S l G mt_X10_unbundle [.ref 0, .int a] h n cq_134.2.2.2.1 := pb_i (Q := cq_134) (Γ := [ab_top]) (vs := [av_k 0, av_s 0]) (V := [.int a]) (cy_222 H 134 cq_134 (by decide) rfl) mi_X10_unbundle rfl rfl ⟨rfl, rfl, trivial⟩ (pb_ty n [a]) rfl rfl hH
theorem pb_X11_unbundle (H : ab_Hand l G) (hH : ab_HT h n) (a : Int32) : pb_S l G mt_X11_unbundle [.ref 542, .int a] h n cq_216.2.2.2.1 := pb_i (Q := cq_216) (Γ := [ab_top]) (vs := [av_k 542, av_s 0]) (V := [.int a]) (cy_222 H 216 cq_216 (by decide) rfl) mi_X11_unbundle rfl rfl ⟨rfl, rfl, trivial⟩ (pb_ty n [a]) rfl rfl hH
theorem pb_X10_settle (H : ab_Hand l G) (hH : ab_HT h n)  : pb_S l G mt_X10_settle [.ref 0] h n cq_118.2.2.2.1 := pb_i (Q := cq_118) (Γ := []) (vs := [av_k 0]) (V := []) (cy_222 H 118 cq_118 (by decide) rfl) mi_X10_settle rfl rfl ⟨rfl, trivial⟩ (pb_ty n []) rfl rfl hH
theorem pb_X11_settle (H : ab_Hand l G) (hH : ab_HT h n)  : pb_S l G mt_X11_settle [.ref 542] h n cq_208.2.2.2.1 := pb_i (Q := cq_208) (Γ := []) (vs := [av_k 542]) (V := []) (cy_222 H 208 cq_208 (by decide) rfl) mi_X11_settle rfl rfl ⟨rfl, trivial⟩ (pb_ty n []) rfl rfl hH
theorem pb_X10_step (H : ab_Hand l G) (hH : ab_HT h n) (a : Int32) : pb_S l G mt_X10_step [.ref 0, .int a] h n cq_128.2.2.2.1 := pb_i (Q := cq_128) (Γ := [ab_top]) (vs := [av_k 0, av_s 0]) (V := [.int a]) (cy_222 H 128 cq_128 (by decide) rfl) mi_X10_step rfl rfl ⟨rfl, rfl, trivial⟩ (pb_ty n [a]) rfl rfl hH
theorem pb_X11_step (H : ab_Hand l G) (hH : ab_HT h n) (a : Int32) : pb_S l G mt_X11_step [.ref 542, .int a] h n cq_211.2.2.2.1 := pb_i (Q := cq_211) (Γ := [ab_top]) (vs := [av_k 542, av_s 0]) (V := [.int a]) (cy_222 H 211 cq_211 (by decide) rfl) mi_X11_step rfl rfl ⟨rfl, rfl, trivial⟩ (pb_ty n [a]) rfl rfl hH
theorem pb_X10_holds (H : ab_Hand l G) (hH : ab_HT h n)  : pb_S l G mt_X10_holds [.ref 0] h n cq_94.2.2.2.1 := pb_i (Q := cq_94) (Γ := []) (vs := [av_k 0]) (V := []) (cy_222 H 94 cq_94 (by decide) rfl) mi_X10_holds rfl rfl ⟨rfl, trivial⟩ (pb_ty n []) rfl rfl hH
theorem pb_X11_holds (H : ab_Hand l G) (hH : ab_HT h n)  : pb_S l G mt_X11_holds [.ref 542] h n cq_186.2.2.2.1 := pb_i (Q := cq_186) (Γ := []) (vs := [av_k 542]) (V := []) (cy_222 H 186 cq_186 (by decide) rfl) mi_X11_holds rfl rfl ⟨rfl, trivial⟩ (pb_ty n []) rfl rfl hH
theorem pb_X10_lift (H : ab_Hand l G) (hH : ab_HT h n) (a : Int32) : pb_S l G mt_X10_lift [.ref 0, .int a] h n cq_100.2.2.2.1 := pb_i (Q := cq_100) (Γ := [ab_top]) (vs := [av_k 0, av_s 0]) (V := [.int a]) (cy_222 H 100 cq_100 (by decide) rfl) mi_X10_lift rfl rfl ⟨rfl, rfl, trivial⟩ (pb_ty n [a]) rfl rfl hH
theorem pb_X10_sweep (H : ab_Hand l G) (hH : ab_HT h n)  : pb_S l G mt_X10_sweep [.ref 0] h n cq_130.2.2.2.1 := pb_i (Q := cq_130) (Γ := []) (vs := [av_k 0]) (V := []) (cy_222 H 130 cq_130 (by decide) rfl) mi_X10_sweep rfl rfl ⟨rfl, trivial⟩ (pb_ty n []) rfl rfl hH
theorem pb_X11_sweep (H : ab_Hand l G) (hH : ab_HT h n)  : pb_S l G mt_X11_sweep [.ref 542] h n cq_213.2.2.2.1 := pb_i (Q := cq_213) (Γ := []) (vs := [av_k 542]) (V := []) (cy_222 H 213 cq_213 (by decide) rfl) mi_X11_sweep rfl rfl ⟨rfl, trivial⟩ (pb_ty n []) rfl rfl hH
theorem pb_X10_parts (H : ab_Hand l G) (hH : ab_HT h n) (a b c : Int32) : pb_S l G mt_X10_parts [.ref 0, .int a, .int b, .int c] h n cq_111.2.2.2.1 := pb_i (Q := cq_111) (Γ := [ab_top, ab_top, ab_top]) (vs := [av_k 0, av_s 0, av_s 1, av_s 2]) (V := [.int a, .int b, .int c]) (cy_222 H 111 cq_111 (by decide) rfl) mi_X10_parts rfl rfl ⟨rfl, rfl, rfl, rfl, trivial⟩ (pb_ty n [a, b, c]) rfl rfl hH
theorem pb_X11_parts (H : ab_Hand l G) (hH : ab_HT h n) (a b c : Int32) : pb_S l G mt_X11_parts [.ref 542, .int a, .int b, .int c] h n cq_204.2.2.2.1 := pb_i (Q := cq_204) (Γ := [ab_top, ab_top, ab_top]) (vs := [av_k 542, av_s 0, av_s 1, av_s 2]) (V := [.int a, .int b, .int c]) (cy_222 H 204 cq_204 (by decide) rfl) mi_X11_parts rfl rfl ⟨rfl, rfl, rfl, rfl, trivial⟩ (pb_ty n [a, b, c]) rfl rfl hH
theorem pb_X11_could (H : ab_Hand l G) (hH : ab_HT h n) (a : Int32) : pb_S l G mt_X11_could [.ref 542, .int a] h n cq_172.2.2.2.1 := pb_i (Q := cq_172) (Γ := [ab_top]) (vs := [av_k 542, av_s 0]) (V := [.int a]) (cy_222 H 172 cq_172 (by decide) rfl) mi_X11_could rfl rfl ⟨rfl, rfl, trivial⟩ (pb_ty n [a]) rfl rfl hH
theorem pb_X11_says (H : ab_Hand l G) (hH : ab_HT h n) (a b : Int32) : pb_S l G mt_X11_says [.ref 542, .int a, .int b] h n cq_206.2.2.2.1 := pb_i (Q := cq_206) (Γ := [ab_top, ab_top]) (vs := [av_k 542, av_s 0, av_s 1]) (V := [.int a, .int b]) (cy_222 H 206 cq_206 (by decide) rfl) mi_X11_says rfl rfl ⟨rfl, rfl, rfl, trivial⟩ (pb_ty n [a, b]) rfl rfl hH
theorem pb_X11_sure (H : ab_Hand l G) (hH : ab_HT h n) (a b : Int32) : pb_S l G mt_X11_sure [.ref 542, .int a, .int b] h n cq_212.2.2.2.1 := pb_i (Q := cq_212) (Γ := [ab_top, ab_top]) (vs := [av_k 542, av_s 0, av_s 1]) (V := [.int a, .int b]) (cy_222 H 212 cq_212 (by decide) rfl) mi_X11_sure rfl rfl ⟨rfl, rfl, rfl, trivial⟩ (pb_ty n [a, b]) rfl rfl hH
theorem pb_X10_note (H : ab_Hand l G) (hH : ab_HT h n) (a b : Int32) : pb_S l G mt_X10_note [.ref 0, .int a, .int b] h n cq_110.2.2.2.1 := pb_i (Q := cq_110) (Γ := [ab_top, ab_top]) (vs := [av_k 0, av_s 0, av_s 1]) (V := [.int a, .int b]) (cy_222 H 110 cq_110 (by decide) rfl) mi_X10_note rfl rfl ⟨rfl, rfl, rfl, trivial⟩ (pb_ty n [a, b]) rfl rfl hH
theorem pb_X11_note (H : ab_Hand l G) (hH : ab_HT h n) (a b : Int32) : pb_S l G mt_X11_note [.ref 542, .int a, .int b] h n cq_202.2.2.2.1 := pb_i (Q := cq_202) (Γ := [ab_top, ab_top]) (vs := [av_k 542, av_s 0, av_s 1]) (V := [.int a, .int b]) (cy_222 H 202 cq_202 (by decide) rfl) mi_X11_note rfl rfl ⟨rfl, rfl, rfl, trivial⟩ (pb_ty n [a, b]) rfl rfl hH
theorem pb_X10_habit (H : ab_Hand l G) (hH : ab_HT h n) (a : Int32) : pb_S l G mt_X10_habit [.ref 0, .int a] h n cq_91.2.2.2.1 := pb_i (Q := cq_91) (Γ := [ab_top]) (vs := [av_k 0, av_s 0]) (V := [.int a]) (cy_222 H 91 cq_91 (by decide) rfl) mi_X10_habit rfl rfl ⟨rfl, rfl, trivial⟩ (pb_ty n [a]) rfl rfl hH
theorem pb_X11_habit (H : ab_Hand l G) (hH : ab_HT h n) (a : Int32) : pb_S l G mt_X11_habit [.ref 542, .int a] h n cq_184.2.2.2.1 := pb_i (Q := cq_184) (Γ := [ab_top]) (vs := [av_k 542, av_s 0]) (V := [.int a]) (cy_222 H 184 cq_184 (by decide) rfl) mi_X11_habit rfl rfl ⟨rfl, rfl, trivial⟩ (pb_ty n [a]) rfl rfl hH
theorem pb_X10_hands (H : ab_Hand l G) (hH : ab_HT h n) (a : Int32) : pb_S l G mt_X10_hands [.ref 0, .int a] h n cq_93.2.2.2.1 := pb_i (Q := cq_93) (Γ := [ab_top]) (vs := [av_k 0, av_s 0]) (V := [.int a]) (cy_222 H 93 cq_93 (by decide) rfl) mi_X10_hands rfl rfl ⟨rfl, rfl, trivial⟩ (pb_ty n [a]) rfl rfl hH
theorem pb_X11_hands (H : ab_Hand l G) (hH : ab_HT h n) (a : Int32) : pb_S l G mt_X11_hands [.ref 542, .int a] h n cq_185.2.2.2.1 := pb_i (Q := cq_185) (Γ := [ab_top]) (vs := [av_k 542, av_s 0]) (V := [.int a]) (cy_222 H 185 cq_185 (by decide) rfl) mi_X11_hands rfl rfl ⟨rfl, rfl, trivial⟩ (pb_ty n [a]) rfl rfl hH
theorem pb_X10_line (H : ab_Hand l G) (hH : ab_HT h n) (a b : Int32) : pb_S l G mt_X10_line [.ref 0, .int a, .int b] h n cq_103.2.2.2.1 := pb_i (Q := cq_103) (Γ := [ab_top, ab_top]) (vs := [av_k 0, av_s 0, av_s 1]) (V := [.int a, .int b]) (cy_222 H 103 cq_103 (by decide) rfl) mi_X10_line rfl rfl ⟨rfl, rfl, rfl, trivial⟩ (pb_ty n [a, b]) rfl rfl hH
theorem pb_X11_line (H : ab_Hand l G) (hH : ab_HT h n) (a b : Int32) : pb_S l G mt_X11_line [.ref 542, .int a, .int b] h n cq_199.2.2.2.1 := pb_i (Q := cq_199) (Γ := [ab_top, ab_top]) (vs := [av_k 542, av_s 0, av_s 1]) (V := [.int a, .int b]) (cy_222 H 199 cq_199 (by decide) rfl) mi_X11_line rfl rfl ⟨rfl, rfl, rfl, trivial⟩ (pb_ty n [a, b]) rfl rfl hH
theorem pb_X10_tear (H : ab_Hand l G) (hH : ab_HT h n)  : pb_S l G mt_X10_tear [.ref 0] h n cq_132.2.2.2.1 := pb_i (Q := cq_132) (Γ := []) (vs := [av_k 0]) (V := []) (cy_222 H 132 cq_132 (by decide) rfl) mi_X10_tear rfl rfl ⟨rfl, trivial⟩ (pb_ty n []) rfl rfl hH
theorem pb_X11_tear (H : ab_Hand l G) (hH : ab_HT h n)  : pb_S l G mt_X11_tear [.ref 542] h n cq_214.2.2.2.1 := pb_i (Q := cq_214) (Γ := []) (vs := [av_k 542]) (V := []) (cy_222 H 214 cq_214 (by decide) rfl) mi_X11_tear rfl rfl ⟨rfl, trivial⟩ (pb_ty n []) rfl rfl hH
theorem pb_X10_wrong (H : ab_Hand l G) (hH : ab_HT h n)  : pb_S l G mt_X10_wrong [.ref 0] h n cq_159.2.2.2.1 := pb_i (Q := cq_159) (Γ := []) (vs := [av_k 0]) (V := []) (cy_222 H 159 cq_159 (by decide) rfl) mi_X10_wrong rfl rfl ⟨rfl, trivial⟩ (pb_ty n []) rfl rfl hH
theorem pb_X11_wrong (H : ab_Hand l G) (hH : ab_HT h n)  : pb_S l G mt_X11_wrong [.ref 542] h n cq_221.2.2.2.1 := pb_i (Q := cq_221) (Γ := []) (vs := [av_k 542]) (V := []) (cy_222 H 221 cq_221 (by decide) rfl) mi_X11_wrong rfl rfl ⟨rfl, trivial⟩ (pb_ty n []) rfl rfl hH
theorem pb_X10_mended (H : ab_Hand l G) (hH : ab_HT h n)  : pb_S l G mt_X10_mended [.ref 0] h n cq_108.2.2.2.1 := pb_i (Q := cq_108) (Γ := []) (vs := [av_k 0]) (V := []) (cy_222 H 108 cq_108 (by decide) rfl) mi_X10_mended rfl rfl ⟨rfl, trivial⟩ (pb_ty n []) rfl rfl hH
theorem pb_X11_mended (H : ab_Hand l G) (hH : ab_HT h n)  : pb_S l G mt_X11_mended [.ref 542] h n cq_201.2.2.2.1 := pb_i (Q := cq_201) (Γ := []) (vs := [av_k 542]) (V := []) (cy_222 H 201 cq_201 (by decide) rfl) mi_X11_mended rfl rfl ⟨rfl, trivial⟩ (pb_ty n []) rfl rfl hH
theorem pb_X10_slip (H : ab_Hand l G) (hH : ab_HT h n) (a : Int32) : pb_S l G mt_X10_slip [.ref 0, .int a] h n cq_127.2.2.2.1 := pb_i (Q := cq_127) (Γ := [ab_top]) (vs := [av_k 0, av_s 0]) (V := [.int a]) (cy_222 H 127 cq_127 (by decide) rfl) mi_X10_slip rfl rfl ⟨rfl, rfl, trivial⟩ (pb_ty n [a]) rfl rfl hH
theorem pb_X11_slip (H : ab_Hand l G) (hH : ab_HT h n) (a : Int32) : pb_S l G mt_X11_slip [.ref 542, .int a] h n cq_210.2.2.2.1 := pb_i (Q := cq_210) (Γ := [ab_top]) (vs := [av_k 542, av_s 0]) (V := [.int a]) (cy_222 H 210 cq_210 (by decide) rfl) mi_X11_slip rfl rfl ⟨rfl, rfl, trivial⟩ (pb_ty n [a]) rfl rfl hH
theorem pb_X10_count (H : ab_Hand l G) (hH : ab_HT h n) (a : Int32) : pb_S l G mt_X10_count [.ref 0, .int a] h n cq_68.2.2.2.1 := pb_i (Q := cq_68) (Γ := [ab_top]) (vs := [av_k 0, av_s 0]) (V := [.int a]) (cy_222 H 68 cq_68 (by decide) rfl) mi_X10_count rfl rfl ⟨rfl, rfl, trivial⟩ (pb_ty n [a]) rfl rfl hH
theorem pb_X11_count (H : ab_Hand l G) (hH : ab_HT h n) (a : Int32) : pb_S l G mt_X11_count [.ref 542, .int a] h n cq_173.2.2.2.1 := pb_i (Q := cq_173) (Γ := [ab_top]) (vs := [av_k 542, av_s 0]) (V := [.int a]) (cy_222 H 173 cq_173 (by decide) rfl) mi_X11_count rfl rfl ⟨rfl, rfl, trivial⟩ (pb_ty n [a]) rfl rfl hH
theorem pb_X10_digest (H : ab_Hand l G) (hH : ab_HT h n)  : pb_L l G mt_X10_digest [.ref 0] h n cq_87.2.2.2.1 := pb_l (Q := cq_87) (Γ := []) (vs := [av_k 0]) (V := []) (cy_222 H 87 cq_87 (by decide) rfl) mi_X10_digest rfl rfl ⟨rfl, trivial⟩ (pb_ty n []) rfl rfl hH
theorem pb_X11_digest (H : ab_Hand l G) (hH : ab_HT h n)  : pb_L l G mt_X11_digest [.ref 542] h n cq_181.2.2.2.1 := pb_l (Q := cq_181) (Γ := []) (vs := [av_k 542]) (V := []) (cy_222 H 181 cq_181 (by decide) rfl) mi_X11_digest rfl rfl ⟨rfl, trivial⟩ (pb_ty n []) rfl rfl hH
end PB
end
section
/-! ===== could, says, sure of the class: without costs, or counted (printed by wip/safe/mkpub3.py) ===== -/
section PT
variable {l : Launch} {G : ax_T} {h : ax_H} {n : Nat} {Q : ab_Q} {mi : ax_MI} {Γ : List ab_Y} {vs : List ab_V} {V as : List Value} {prog : List ax_MI} {C : List (Nat × Nat × Int)} {F : List (ab_V × ab_V × ab_V)}
theorem pt_go (hQ : ab_QOk l G prog Q) (hmi : prog[Q.1]? = some mi) (hd : Nat.ble Q.2.1 40 = true) (hp : Q.2.2.1 = (ab_args Γ 0 vs, [], Γ, C, F, [], 0, 0)) (hs : ab_stR V vs as) (hΓ : ab_ty n V Γ) (hC : ab_co V C) (hF : ab_ca V h F) (hl : Nat.ble (ax_sum as) mi.2.2.2.1 = true) (hpo : Q.2.2.2.2.all pb_int = true) (hH : ab_HT h n) :
    ∃ (x : Int32) (h' : ax_H) (n' : Nat), ab_M l G 40 mi as h n (some (.int x), h', n') ∧ ab_HT h' n' ∧ ab_fr Q.2.2.2.1 n h h' ∧ ∃ P ∈ Q.2.2.2.2, ∃ V', ab_co V' P.2.2.2.1 ∧ ab_ca V' h' P.2.2.2.2.1 ∧ ab_ty n' V' P.2.2.1 ∧ ∀ (u : Nat) (v : Value), V[u]? = some v → V'[u]? = some v := by
  have hg : ab_g (V, h, n, Q.2.2.2.1) Q.2.2.1 V (lv_args 0 as) [] h n 0 0 := by
    rw [hp]
    exact ⟨ab_args_ok hΓ 0 hs, trivial, hΓ, hC, hF, fun q hq => (nomatch hq), ⟨rfl, rfl⟩, ⟨hH, fun k _ i _ => rfl, Nat.le_refl _⟩, fun u v hu => hu⟩
  obtain ⟨⟨r, h', n'⟩, hM, P, hP, V', c', s', hg'⟩ := hQ mi hmi 40 (by simpa [Nat.ble_eq] using hd) V as h n (by rw [ab_sl_sum]; simpa [Nat.ble_eq] using hl) hg
  obtain ⟨g1, g2, g3, g4, g5, g6, g7, g8, g9⟩ := hg'
  have hb := List.all_eq_true.mp hpo P hP
  unfold pb_int at hb
  split at hb
  · rename_i a ha
    rw [ha] at g2
    obtain ⟨q, hq⟩ := Option.isSome_iff_exists.mp hb
    cases r with
    | none => exact g2.elim
    | some v =>
      obtain ⟨x, e, -⟩ := ab_iv_ok g3 hq g2.1
      subst e
      exact ⟨x, h', n', hM, g8.1, g8.2.1, P, hP, V', g4, g5, g3, g9⟩
  · cases hb
/-- a field that holds an int -/
theorem fl_rd (hH : ab_HT h n) {k ci j : Nat} {lo hi : Int} (hk : k < 573) (hc : ab_fck (2 ^ ab_k k) ci j (.inl (lo, hi, 0)) = true) : ∃ x : Int32, ab_rd h k j = some (.int x) ∧ lo ≤ x.toInt ∧ x.toInt ≤ hi := by
  obtain ⟨fs, v, h1, h2, x, rfl, h3, h4, -⟩ := ab_fck_ok hH (M := 2 ^ ab_k k) (k := k) (by simp) (by have := hH.1; omega) hc
  refine ⟨x, ?_, h3, h4⟩
  unfold ab_rd
  rw [h1]
  have : decide ((j : Int) < 0) = false := by simp
  simp only [this, cond_false]
  rw [Int.toNat_natCast]
  exact h2
/-- of the class's could, says, sure: no stone is read, and it costs nothing; or one is -/
def pb_3 (l : Launch) (G : ax_T) (mi : ax_MI) (as : List Value) (h : ax_H) (n : Nat) (M : List (Nat × Int)) : Prop := pb_S l G (zz mi) as h n [] ∨ ∃ (x : Int32) (h' : ax_H) (n' : Nat), ab_M l G 40 mi as h n (some (.int x), h', n') ∧ ab_HT h' n' ∧ pb_f M n h h' ∧ ab_ri h 0 10 + 1 ≤ ab_ri h' 0 10
theorem pt_z {i : Nat} (hi : z_cs[i]? = some Q) (hmi : z_prog[Q.1]? = some mi) (hd : Nat.ble Q.2.1 40 = true) (hp : Q.2.2.1 = (ab_args Γ 0 vs, [], Γ, C, F, [], 0, 0)) (hs : ab_stR V vs as) (hΓ : ab_ty n V Γ) (hC : ab_co V C) (hF : ab_ca V h F) (hl : Nat.ble (ax_sum as) mi.2.2.2.1 = true) (hpo : Q.2.2.2.2.all pb_int = true) (hi16 : i < 16) (hH : ab_HT h n) : pb_S l G mi as h n Q.2.2.2.1 := by
  obtain ⟨x, h', n', hM, k1, k2, -⟩ := pt_go (zy_16 i Q hi16 hi) hmi hd hp hs hΓ hC hF hl hpo hH
  exact ⟨x, h', n', hM, k1, pb_f_of k2⟩
theorem pt_two {x : Int32} {lo hi : Int} (h1 : lo ≤ x.toInt) (h2 : x.toInt ≤ hi) {V : List Value} {Γ : List ab_Y} (hV : ab_ty n V Γ) : ab_ty n (V ++ [.int x]) (Γ ++ [.inl (lo, hi, 0)]) := ab_ty_app hV ⟨x, rfl, h1, h2, trivial⟩
theorem pt_one {x : Int32} {lo hi : Int} (h1 : lo ≤ x.toInt) (h2 : x.toInt ≤ hi) : ab_ty n [.int x] [.inl (lo, hi, 0)] := by
  have := ab_ty_app (n := n) (V := []) (Γ := []) (w := .int x) (τ := .inl (lo, hi, 0)) ⟨rfl, fun u τ hu => by simp at hu⟩ ⟨x, rfl, h1, h2, trivial⟩
  exact this
theorem pt_min (x : Int32) : -2147483648 ≤ x.toInt ∧ x.toInt ≤ 2147483647 := by
  have h1 := x.le_toInt
  have h2 := x.toInt_lt
  omega
theorem pb_X10_could (H : ab_Hand l G) (hH : ab_HT h n) (a : Int32) : pb_3 l G mt_X10_could [.ref 0, .int a] h n yq_1.2.2.2.1 := by
  obtain ⟨c8, r8, l8, u8⟩ := fl_rd hH (k := 0) (ci := 10) (j := 8) (lo := 0) (hi := 6) (by decide) (by decide +kernel)
  obtain ⟨c10, r10, l10, u10⟩ := fl_rd hH (k := 0) (ci := 10) (j := 10) (lo := 0) (hi := 30) (by decide) (by decide +kernel)
  obtain ⟨c1, r1, l1, u1⟩ := fl_rd hH (k := 28) (ci := 7) (j := 1) (lo := 0) (hi := 20) (by decide) (by decide +kernel)
  have ma := pt_min a
  by_cases e1 : a.toInt ≤ -1
  · exact Or.inl (pt_z (Q := zq_4) (i := 4) (Γ := [.inl ((-2147483648), (-1), 0)]) (vs := [av_k 0, av_s 0]) (V := [.int a]) (C := []) (F := []) rfl (zz_get mi_X10_could) rfl rfl ⟨rfl, rfl, trivial⟩ (pt_one ma.1 e1) (fun q hq => nomatch hq) (fun q hq => nomatch hq) rfl rfl (by decide) hH)
  by_cases e2 : c8.toInt ≤ a.toInt
  · exact Or.inl (pt_z (Q := zq_5) (i := 5) (Γ := [ab_top, .inl (0, 6, 0)]) (vs := [av_k 0, av_s 0]) (V := [.int a, .int c8]) (C := [(1, 0, 0)]) (F := [(av_k 0, av_c 8, av_s 1)]) rfl (zz_get mi_X10_could) rfl rfl ⟨rfl, rfl, trivial⟩ (ab_ty_app (V := [.int a]) (pb_ty n [a]) ⟨c8, rfl, l8, u8, trivial⟩) (fun q hq => by rw [List.mem_singleton] at hq; subst hq; exact ⟨c8, a, rfl, rfl, by simp only; omega⟩) (fun q hq => by rw [List.mem_singleton] at hq; subst hq; exact Or.inl ⟨0, Int32.ofInt 8, .int c8, rfl, rfl, rfl, r8⟩) rfl rfl (by decide) hH)
  by_cases e3 : c1.toInt = 0
  · have e3' : c1 = Int32.ofInt 0 := Int32.toInt_inj.mp (by rw [e3]; rfl)
    subst e3'
    exact Or.inl (pt_z (Q := zq_2) (i := 2) (Γ := [ab_top]) (vs := [av_k 0, av_s 0]) (V := [.int a]) (C := []) (F := [(av_k 28, av_c 1, av_c 0)]) rfl (zz_get mi_X10_could) rfl rfl ⟨rfl, rfl, trivial⟩ (pb_ty n [a]) (fun q hq => nomatch hq) (fun q hq => by rw [List.mem_singleton] at hq; subst hq; exact Or.inl ⟨28, Int32.ofInt 1, .int (Int32.ofInt 0), rfl, rfl, rfl, r1⟩) rfl rfl (by decide) hH)
  by_cases e4 : c10.toInt = 30
  · have e4' : c10 = Int32.ofInt 30 := Int32.toInt_inj.mp (by rw [e4]; rfl)
    subst e4'
    exact Or.inl (pt_z (Q := zq_3) (i := 3) (Γ := [ab_top]) (vs := [av_k 0, av_s 0]) (V := [.int a]) (C := []) (F := [(av_k 0, av_c 10, av_c 30)]) rfl (zz_get mi_X10_could) rfl rfl ⟨rfl, rfl, trivial⟩ (pb_ty n [a]) (fun q hq => nomatch hq) (fun q hq => by rw [List.mem_singleton] at hq; subst hq; exact Or.inl ⟨0, Int32.ofInt 10, .int (Int32.ofInt 30), rfl, rfl, rfl, r10⟩) rfl rfl (by decide) hH)
  have hty : ab_ty n [.int a, .int c8, .int c10, .int c1] [.inl (0, 5, 0), .inl (0, 6, 0), .inl (0, 29, 0), .inl (1, 20, 0)] := (pt_two (x := c1) (lo := 1) (hi := 20) (by omega) u1 (pt_two (x := c10) (lo := 0) (hi := 29) l10 (by omega) (pt_two (x := c8) (lo := 0) (hi := 6) l8 u8 (pt_one (lo := 0) (hi := 5) (x := a) (by omega) (by omega)))))
  obtain ⟨x, h', n', hM, k1, kf, P, hP, V', q1, q2, q3, q4⟩ := pt_go (Q := yq_1) (Γ := [.inl (0, 5, 0), .inl (0, 6, 0), .inl (0, 29, 0), .inl (1, 20, 0)]) (vs := [av_k 0, av_s 0]) (V := [.int a, .int c8, .int c10, .int c1]) (as := [.ref 0, .int a]) (C := [(0, 1, -1)]) (F := [(av_k 0, av_c 8, av_s 1), (av_k 0, av_c 10, av_s 2), (av_k 28, av_c 1, av_s 3)]) (yy_4 H (222 + 1) yq_1 (by decide) rfl) mi_X10_could rfl rfl ⟨rfl, rfl, trivial⟩ hty (fun q hq => by rw [List.mem_singleton] at hq; subst hq; exact ⟨a, c8, rfl, rfl, by simp only; omega⟩) (fun q hq => by
      rcases List.mem_cons.mp hq with rfl | hq
      · exact Or.inl ⟨0, Int32.ofInt 8, .int c8, rfl, rfl, rfl, r8⟩
      rcases List.mem_cons.mp hq with rfl | hq
      · exact Or.inl ⟨0, Int32.ofInt 10, .int c10, rfl, rfl, rfl, r10⟩
      rw [List.mem_singleton] at hq
      subst hq
      exact Or.inl ⟨28, Int32.ofInt 1, .int c1, rfl, rfl, rfl, r1⟩) rfl rfl hH
  rw [show yq_1.2.2.2.2 = [yq_1.2.2.2.2.head (by decide)] from rfl, List.mem_singleton] at hP
  subst hP
  refine Or.inr ⟨x, h', n', hM, k1, pb_f_of kf, ?_⟩
  obtain ⟨u, v, w1, w2, w3⟩ := q1 (2, 5, -1) List.mem_cons_self
  rcases q2 (av_k 0, av_c 10, av_s 5) List.mem_cons_self with ⟨kk, xx, ww, f1, f2, f3, f4⟩ | ⟨_, _, _, f1, -⟩
  case inr => cases f1
  cases f1
  cases f2
  have hu : V'[2]? = some (.int c10) := q4 2 _ rfl
  have e7 : u = c10 := by
    have : some (Value.int u) = some (.int c10) := w1.symm.trans hu
    cases this; rfl
  have e8 : ww = .int v := Option.some.inj (f3.symm.trans w2)
  subst e7 e8
  have f5 : ab_rd h' 0 10 = some (.int v) := f4
  unfold ab_ri
  rw [f5, show ab_rd h 0 10 = some (.int u) from r10]
  have w4 : u.toInt - v.toInt ≤ -1 := w3
  show u.toInt + 1 ≤ v.toInt
  omega
theorem pb_X10_says (H : ab_Hand l G) (hH : ab_HT h n) (a b : Int32) : pb_3 l G mt_X10_says [.ref 0, .int a, .int b] h n yq_2.2.2.2.1 := by
  obtain ⟨c8, r8, l8, u8⟩ := fl_rd hH (k := 0) (ci := 10) (j := 8) (lo := 0) (hi := 6) (by decide) (by decide +kernel)
  obtain ⟨c10, r10, l10, u10⟩ := fl_rd hH (k := 0) (ci := 10) (j := 10) (lo := 0) (hi := 30) (by decide) (by decide +kernel)
  obtain ⟨c1, r1, l1, u1⟩ := fl_rd hH (k := 28) (ci := 7) (j := 1) (lo := 0) (hi := 20) (by decide) (by decide +kernel)
  have ma := pt_min a
  by_cases e1 : a.toInt ≤ -1
  · exact Or.inl (pt_z (Q := zq_8) (i := 8) (Γ := [.inl ((-2147483648), (-1), 0), ab_top]) (vs := [av_k 0, av_s 0, av_s 1]) (V := [.int a, .int b]) (C := []) (F := []) rfl (zz_get mi_X10_says) rfl rfl ⟨rfl, rfl, rfl, trivial⟩ (ab_ty_two (V := [.int a]) (pt_one ma.1 e1) (pb_ty n [b])) (fun q hq => nomatch hq) (fun q hq => nomatch hq) rfl rfl (by decide) hH)
  by_cases e2 : c8.toInt ≤ a.toInt
  · exact Or.inl (pt_z (Q := zq_9) (i := 9) (Γ := [ab_top, ab_top, .inl (0, 6, 0)]) (vs := [av_k 0, av_s 0, av_s 1]) (V := [.int a, .int b, .int c8]) (C := [(2, 0, 0)]) (F := [(av_k 0, av_c 8, av_s 2)]) rfl (zz_get mi_X10_says) rfl rfl ⟨rfl, rfl, rfl, trivial⟩ (ab_ty_app (V := [.int a, .int b]) (pb_ty n [a, b]) ⟨c8, rfl, l8, u8, trivial⟩) (fun q hq => by rw [List.mem_singleton] at hq; subst hq; exact ⟨c8, a, rfl, rfl, by simp only; omega⟩) (fun q hq => by rw [List.mem_singleton] at hq; subst hq; exact Or.inl ⟨0, Int32.ofInt 8, .int c8, rfl, rfl, rfl, r8⟩) rfl rfl (by decide) hH)
  by_cases e3 : c1.toInt = 0
  · have e3' : c1 = Int32.ofInt 0 := Int32.toInt_inj.mp (by rw [e3]; rfl)
    subst e3'
    exact Or.inl (pt_z (Q := zq_6) (i := 6) (Γ := [ab_top, ab_top]) (vs := [av_k 0, av_s 0, av_s 1]) (V := [.int a, .int b]) (C := []) (F := [(av_k 28, av_c 1, av_c 0)]) rfl (zz_get mi_X10_says) rfl rfl ⟨rfl, rfl, rfl, trivial⟩ (pb_ty n [a, b]) (fun q hq => nomatch hq) (fun q hq => by rw [List.mem_singleton] at hq; subst hq; exact Or.inl ⟨28, Int32.ofInt 1, .int (Int32.ofInt 0), rfl, rfl, rfl, r1⟩) rfl rfl (by decide) hH)
  by_cases e4 : c10.toInt = 30
  · have e4' : c10 = Int32.ofInt 30 := Int32.toInt_inj.mp (by rw [e4]; rfl)
    subst e4'
    exact Or.inl (pt_z (Q := zq_7) (i := 7) (Γ := [ab_top, ab_top]) (vs := [av_k 0, av_s 0, av_s 1]) (V := [.int a, .int b]) (C := []) (F := [(av_k 0, av_c 10, av_c 30)]) rfl (zz_get mi_X10_says) rfl rfl ⟨rfl, rfl, rfl, trivial⟩ (pb_ty n [a, b]) (fun q hq => nomatch hq) (fun q hq => by rw [List.mem_singleton] at hq; subst hq; exact Or.inl ⟨0, Int32.ofInt 10, .int (Int32.ofInt 30), rfl, rfl, rfl, r10⟩) rfl rfl (by decide) hH)
  have hty : ab_ty n [.int a, .int b, .int c8, .int c10, .int c1] [.inl (0, 5, 0), ab_top, .inl (0, 6, 0), .inl (0, 29, 0), .inl (1, 20, 0)] := (pt_two (x := c1) (lo := 1) (hi := 20) (by omega) u1 (pt_two (x := c10) (lo := 0) (hi := 29) l10 (by omega) (pt_two (x := c8) (lo := 0) (hi := 6) l8 u8 (ab_ty_two (V := [.int a]) (pt_one (lo := 0) (hi := 5) (x := a) (by omega) (by omega)) (pb_ty n [b])))))
  obtain ⟨x, h', n', hM, k1, kf, P, hP, V', q1, q2, q3, q4⟩ := pt_go (Q := yq_2) (Γ := [.inl (0, 5, 0), ab_top, .inl (0, 6, 0), .inl (0, 29, 0), .inl (1, 20, 0)]) (vs := [av_k 0, av_s 0, av_s 1]) (V := [.int a, .int b, .int c8, .int c10, .int c1]) (as := [.ref 0, .int a, .int b]) (C := [(0, 2, -1)]) (F := [(av_k 0, av_c 8, av_s 2), (av_k 0, av_c 10, av_s 3), (av_k 28, av_c 1, av_s 4)]) (yy_4 H (222 + 2) yq_2 (by decide) rfl) mi_X10_says rfl rfl ⟨rfl, rfl, rfl, trivial⟩ hty (fun q hq => by rw [List.mem_singleton] at hq; subst hq; exact ⟨a, c8, rfl, rfl, by simp only; omega⟩) (fun q hq => by
      rcases List.mem_cons.mp hq with rfl | hq
      · exact Or.inl ⟨0, Int32.ofInt 8, .int c8, rfl, rfl, rfl, r8⟩
      rcases List.mem_cons.mp hq with rfl | hq
      · exact Or.inl ⟨0, Int32.ofInt 10, .int c10, rfl, rfl, rfl, r10⟩
      rw [List.mem_singleton] at hq
      subst hq
      exact Or.inl ⟨28, Int32.ofInt 1, .int c1, rfl, rfl, rfl, r1⟩) rfl rfl hH
  rw [show yq_2.2.2.2.2 = [yq_2.2.2.2.2.head (by decide)] from rfl, List.mem_singleton] at hP
  subst hP
  refine Or.inr ⟨x, h', n', hM, k1, pb_f_of kf, ?_⟩
  obtain ⟨u, v, w1, w2, w3⟩ := q1 (3, 6, -1) List.mem_cons_self
  rcases q2 (av_k 0, av_c 10, av_s 6) List.mem_cons_self with ⟨kk, xx, ww, f1, f2, f3, f4⟩ | ⟨_, _, _, f1, -⟩
  case inr => cases f1
  cases f1
  cases f2
  have hu : V'[3]? = some (.int c10) := q4 3 _ rfl
  have e7 : u = c10 := by
    have : some (Value.int u) = some (.int c10) := w1.symm.trans hu
    cases this; rfl
  have e8 : ww = .int v := Option.some.inj (f3.symm.trans w2)
  subst e7 e8
  have f5 : ab_rd h' 0 10 = some (.int v) := f4
  unfold ab_ri
  rw [f5, show ab_rd h 0 10 = some (.int u) from r10]
  have w4 : u.toInt - v.toInt ≤ -1 := w3
  show u.toInt + 1 ≤ v.toInt
  omega
theorem pb_X10_sure (H : ab_Hand l G) (hH : ab_HT h n) (a b : Int32) : pb_3 l G mt_X10_sure [.ref 0, .int a, .int b] h n yq_3.2.2.2.1 := by
  obtain ⟨c8, r8, l8, u8⟩ := fl_rd hH (k := 0) (ci := 10) (j := 8) (lo := 0) (hi := 6) (by decide) (by decide +kernel)
  obtain ⟨c10, r10, l10, u10⟩ := fl_rd hH (k := 0) (ci := 10) (j := 10) (lo := 0) (hi := 30) (by decide) (by decide +kernel)
  obtain ⟨c1, r1, l1, u1⟩ := fl_rd hH (k := 28) (ci := 7) (j := 1) (lo := 0) (hi := 20) (by decide) (by decide +kernel)
  have ma := pt_min a
  by_cases e1 : a.toInt ≤ -1
  · exact Or.inl (pt_z (Q := zq_12) (i := 12) (Γ := [.inl ((-2147483648), (-1), 0), ab_top]) (vs := [av_k 0, av_s 0, av_s 1]) (V := [.int a, .int b]) (C := []) (F := []) rfl (zz_get mi_X10_sure) rfl rfl ⟨rfl, rfl, rfl, trivial⟩ (ab_ty_two (V := [.int a]) (pt_one ma.1 e1) (pb_ty n [b])) (fun q hq => nomatch hq) (fun q hq => nomatch hq) rfl rfl (by decide) hH)
  by_cases e2 : c8.toInt ≤ a.toInt
  · exact Or.inl (pt_z (Q := zq_13) (i := 13) (Γ := [ab_top, ab_top, .inl (0, 6, 0)]) (vs := [av_k 0, av_s 0, av_s 1]) (V := [.int a, .int b, .int c8]) (C := [(2, 0, 0)]) (F := [(av_k 0, av_c 8, av_s 2)]) rfl (zz_get mi_X10_sure) rfl rfl ⟨rfl, rfl, rfl, trivial⟩ (ab_ty_app (V := [.int a, .int b]) (pb_ty n [a, b]) ⟨c8, rfl, l8, u8, trivial⟩) (fun q hq => by rw [List.mem_singleton] at hq; subst hq; exact ⟨c8, a, rfl, rfl, by simp only; omega⟩) (fun q hq => by rw [List.mem_singleton] at hq; subst hq; exact Or.inl ⟨0, Int32.ofInt 8, .int c8, rfl, rfl, rfl, r8⟩) rfl rfl (by decide) hH)
  by_cases e3 : c1.toInt = 0
  · have e3' : c1 = Int32.ofInt 0 := Int32.toInt_inj.mp (by rw [e3]; rfl)
    subst e3'
    exact Or.inl (pt_z (Q := zq_10) (i := 10) (Γ := [ab_top, ab_top]) (vs := [av_k 0, av_s 0, av_s 1]) (V := [.int a, .int b]) (C := []) (F := [(av_k 28, av_c 1, av_c 0)]) rfl (zz_get mi_X10_sure) rfl rfl ⟨rfl, rfl, rfl, trivial⟩ (pb_ty n [a, b]) (fun q hq => nomatch hq) (fun q hq => by rw [List.mem_singleton] at hq; subst hq; exact Or.inl ⟨28, Int32.ofInt 1, .int (Int32.ofInt 0), rfl, rfl, rfl, r1⟩) rfl rfl (by decide) hH)
  by_cases e4 : c10.toInt = 30
  · have e4' : c10 = Int32.ofInt 30 := Int32.toInt_inj.mp (by rw [e4]; rfl)
    subst e4'
    exact Or.inl (pt_z (Q := zq_11) (i := 11) (Γ := [ab_top, ab_top]) (vs := [av_k 0, av_s 0, av_s 1]) (V := [.int a, .int b]) (C := []) (F := [(av_k 0, av_c 10, av_c 30)]) rfl (zz_get mi_X10_sure) rfl rfl ⟨rfl, rfl, rfl, trivial⟩ (pb_ty n [a, b]) (fun q hq => nomatch hq) (fun q hq => by rw [List.mem_singleton] at hq; subst hq; exact Or.inl ⟨0, Int32.ofInt 10, .int (Int32.ofInt 30), rfl, rfl, rfl, r10⟩) rfl rfl (by decide) hH)
  have mb := pt_min b
  by_cases e5 : b.toInt ≤ -1
  · exact Or.inl (pt_z (Q := zq_14) (i := 14) (Γ := [ab_top, .inl ((-2147483648), (-1), 0)]) (vs := [av_k 0, av_s 0, av_s 1]) (V := [.int a, .int b]) (C := []) (F := []) rfl (zz_get mi_X10_sure) rfl rfl ⟨rfl, rfl, rfl, trivial⟩ (ab_ty_two (V := [.int a]) (pb_ty n [a]) (pt_one mb.1 e5)) (fun q hq => nomatch hq) (fun q hq => nomatch hq) rfl rfl (by decide) hH)
  by_cases e6 : 20 ≤ b.toInt
  · exact Or.inl (pt_z (Q := zq_15) (i := 15) (Γ := [ab_top, .inl (20, 2147483647, 0)]) (vs := [av_k 0, av_s 0, av_s 1]) (V := [.int a, .int b]) (C := []) (F := []) rfl (zz_get mi_X10_sure) rfl rfl ⟨rfl, rfl, rfl, trivial⟩ (ab_ty_two (V := [.int a]) (pb_ty n [a]) (pt_one e6 mb.2)) (fun q hq => nomatch hq) (fun q hq => nomatch hq) rfl rfl (by decide) hH)
  have hty : ab_ty n [.int a, .int b, .int c8, .int c10, .int c1] [.inl (0, 5, 0), .inl (0, 19, 0), .inl (0, 6, 0), .inl (0, 29, 0), .inl (1, 20, 0)] := (pt_two (x := c1) (lo := 1) (hi := 20) (by omega) u1 (pt_two (x := c10) (lo := 0) (hi := 29) l10 (by omega) (pt_two (x := c8) (lo := 0) (hi := 6) l8 u8 (ab_ty_two (V := [.int a]) (pt_one (lo := 0) (hi := 5) (x := a) (by omega) (by omega)) (pt_one (lo := 0) (hi := 19) (x := b) (by omega) (by omega))))))
  obtain ⟨x, h', n', hM, k1, kf, P, hP, V', q1, q2, q3, q4⟩ := pt_go (Q := yq_3) (Γ := [.inl (0, 5, 0), .inl (0, 19, 0), .inl (0, 6, 0), .inl (0, 29, 0), .inl (1, 20, 0)]) (vs := [av_k 0, av_s 0, av_s 1]) (V := [.int a, .int b, .int c8, .int c10, .int c1]) (as := [.ref 0, .int a, .int b]) (C := [(0, 2, -1)]) (F := [(av_k 0, av_c 8, av_s 2), (av_k 0, av_c 10, av_s 3), (av_k 28, av_c 1, av_s 4)]) (yy_4 H (222 + 3) yq_3 (by decide) rfl) mi_X10_sure rfl rfl ⟨rfl, rfl, rfl, trivial⟩ hty (fun q hq => by rw [List.mem_singleton] at hq; subst hq; exact ⟨a, c8, rfl, rfl, by simp only; omega⟩) (fun q hq => by
      rcases List.mem_cons.mp hq with rfl | hq
      · exact Or.inl ⟨0, Int32.ofInt 8, .int c8, rfl, rfl, rfl, r8⟩
      rcases List.mem_cons.mp hq with rfl | hq
      · exact Or.inl ⟨0, Int32.ofInt 10, .int c10, rfl, rfl, rfl, r10⟩
      rw [List.mem_singleton] at hq
      subst hq
      exact Or.inl ⟨28, Int32.ofInt 1, .int c1, rfl, rfl, rfl, r1⟩) rfl rfl hH
  rw [show yq_3.2.2.2.2 = [yq_3.2.2.2.2.head (by decide)] from rfl, List.mem_singleton] at hP
  subst hP
  refine Or.inr ⟨x, h', n', hM, k1, pb_f_of kf, ?_⟩
  obtain ⟨u, v, w1, w2, w3⟩ := q1 (3, 6, -1) List.mem_cons_self
  rcases q2 (av_k 0, av_c 10, av_s 6) List.mem_cons_self with ⟨kk, xx, ww, f1, f2, f3, f4⟩ | ⟨_, _, _, f1, -⟩
  case inr => cases f1
  cases f1
  cases f2
  have hu : V'[3]? = some (.int c10) := q4 3 _ rfl
  have e7 : u = c10 := by
    have : some (Value.int u) = some (.int c10) := w1.symm.trans hu
    cases this; rfl
  have e8 : ww = .int v := Option.some.inj (f3.symm.trans w2)
  subst e7 e8
  have f5 : ab_rd h' 0 10 = some (.int v) := f4
  unfold ab_ri
  rw [f5, show ab_rd h 0 10 = some (.int u) from r10]
  have w4 : u.toInt - v.toInt ≤ -1 := w3
  show u.toInt + 1 ≤ v.toInt
  omega
end PT
end
section
/-! ===== by hand: all contracts by hand, given signOf ===== -/
theorem as1 {as : List Value} {x : Value} (hl : (lg_sl as).length ≤ 1) (ha : ax_look (lv_args 0 as) 0 = some x) : as = [x] := by
  rw [ab_sl_sum] at hl
  match as, hl, ha with
  | [], _, ha => cases ha
  | [v], _, ha =>
    have : some v = some x := ha
    cases this
    rfl
  | v :: w :: rest, hl, _ =>
    exfalso
    have h1 : 1 ≤ v.category := by cases v <;> exact Nat.le_of_ble_eq_true rfl
    have h2 : 1 ≤ w.category := by cases w <;> exact Nat.le_of_ble_eq_true rfl
    have h3 : ax_sum (v :: w :: rest) = v.category + (w.category + ax_sum rest) := rfl
    omega
theorem sg_q0 {l : Launch} {G : ax_T} (HS : SGN l G) : ab_QOk l G mt_prog cq_0 := by
  intro mi hmi d hd V as h n hlen hg
  have hm : mi = mt_X10_signOf := Option.some.inj (hmi.symm.trans mi_X10_signOf)
  subst hm
  have hd' : 10 ≤ d := hd
  obtain ⟨g1, -, g3, -, -, -, -, g8, g9⟩ := hg
  obtain ⟨v0, q0, ⟨x, rfl, x1, x2, x3⟩⟩ := g3.2 0 _ rfl
  obtain ⟨v1, a0, b0⟩ := g1 0 _ rfl
  have e1 : v1 = .int x := Option.some.inj (b0.symm.trans q0)
  subst e1
  have has := as1 hlen a0
  subst has
  obtain ⟨o, m1, m2, m3, y, m4, m5⟩ := HS d h n x (by omega) (Or.inr trivial) (mc_HW_of g8.1) (by omega) (by omega)
  have hy : 0 ≤ y.toInt ∧ y.toInt ≤ 13 := by
    rcases m5 with q | q
    · exact q.2
    · exact absurd x3 q.1
  have hV : V = [.int x] := by
    match V, g3.1, q0 with
    | [v], _, q0 => cases q0; rfl
  refine ⟨o, m1, _, List.mem_singleton.mpr rfl, [.int x, .int y], 0, 0, fun k a hk => (by cases hk), ?_, ⟨rfl, fun u τ hu => ?_⟩, fun q hq => (nomatch hq), fun q hq => (nomatch hq), fun q hq => (nomatch hq), ⟨rfl, rfl⟩, ⟨?_, fun k _ i _ => ?_, ?_⟩, fun u v hu => ?_⟩
  · rw [m4]; exact ⟨rfl, trivial⟩
  · match u, hu with
    | 0, hu => cases hu; exact ⟨_, rfl, x, rfl, x1, x2, x3⟩
    | 1, hu => cases hu; exact ⟨_, rfl, y, rfl, hy.1, hy.2, trivial⟩
    | u + 2, hu => simp at hu
  · rw [m2, m3]; exact g8.1
  · rw [m2]
  · rw [m3]; exact Nat.le_refl _
  · rw [hV] at hu
    match u, hu with
    | 0, hu => exact hu
    | u + 1, hu => simp at hu
theorem sg_q1 {l : Launch} {G : ax_T} (HS : SGN l G) : ab_QOk l G mt_prog cq_1 := by
  intro mi hmi d hd V as h n hlen hg
  have hm : mi = mt_X10_signOf := Option.some.inj (hmi.symm.trans mi_X10_signOf)
  subst hm
  have hd' : 10 ≤ d := hd
  obtain ⟨g1, -, g3, -, -, -, -, g8, g9⟩ := hg
  obtain ⟨v0, q0, ⟨x, rfl, x1, x2, x3⟩⟩ := g3.2 0 _ rfl
  obtain ⟨v1, a0, b0⟩ := g1 0 _ rfl
  have e1 : v1 = .int x := Option.some.inj (b0.symm.trans q0)
  subst e1
  have has := as1 hlen a0
  subst has
  obtain ⟨o, m1, m2, m3, y, m4, m5⟩ := HS d h n x (by omega) (Or.inr trivial) (mc_HW_of g8.1) x1 x2
  have hV : V = [.int x] := by
    match V, g3.1, q0 with
    | [v], _, q0 => cases q0; rfl
  rcases m5 with ⟨q1, q2, q3⟩ | ⟨q1, q2⟩
  · have hb : 67 ≤ x.toInt ∧ x.toInt ≤ 120 := by
      have : ∀ z ∈ ab_let, (67 : Int) ≤ z ∧ z ≤ 120 := by decide
      exact this _ q1
    refine ⟨o, m1, ([], [av_s 1], [.inl (67, 120, 3), .inl (0, 13, 0)], [], [], [], 0, 0), List.mem_cons_self, [.int x, .int y], 0, 0, fun k a hk => (by cases hk), ?_, ⟨rfl, fun u τ hu => ?_⟩, fun q hq => (nomatch hq), fun q hq => (nomatch hq), fun q hq => (nomatch hq), ⟨rfl, rfl⟩, ⟨?_, fun k _ i _ => ?_, ?_⟩, fun u v hu => ?_⟩
    · rw [m4]; exact ⟨rfl, trivial⟩
    · match u, hu with
      | 0, hu => cases hu; exact ⟨_, rfl, x, rfl, hb.1, hb.2, q1⟩
      | 1, hu => cases hu; exact ⟨_, rfl, y, rfl, q2, q3, trivial⟩
      | u + 2, hu => simp at hu
    · rw [m2, m3]; exact g8.1
    · rw [m2]
    · rw [m3]; exact Nat.le_refl _
    · rw [hV] at hu
      match u, hu with
      | 0, hu => exact hu
      | u + 1, hu => simp at hu
  · refine ⟨o, m1, ([], [av_c (-1)], [.inl (0, 255, 0)], [], [], [], 0, 0), List.mem_cons_of_mem _ List.mem_cons_self, [.int x], 0, 0, fun k a hk => (by cases hk), ?_, ⟨rfl, fun u τ hu => ?_⟩, fun q hq => (nomatch hq), fun q hq => (nomatch hq), fun q hq => (nomatch hq), ⟨rfl, rfl⟩, ⟨?_, fun k _ i _ => ?_, ?_⟩, fun u v hu => ?_⟩
    · rw [m4]
      have : y = Int32.ofInt (-1) := Int32.toInt_inj.mp (by rw [q2]; decide)
      subst this
      exact ⟨rfl, trivial⟩
    · match u, hu with
      | 0, hu => cases hu; exact ⟨_, rfl, x, rfl, x1, x2, trivial⟩
      | u + 1, hu => simp at hu
    · rw [m2, m3]; exact g8.1
    · rw [m2]
    · rw [m3]; exact Nat.le_refl _
    · rw [hV] at hu; exact hu
theorem hand_ok {l : Launch} {G : ax_T} (HS : SGN l G) : ab_Hand l G := by
  intro c Q hc hQ
  match c, hc, hQ with
  | 0, _, hQ => cases hQ; exact sg_q0 HS
  | 1, _, hQ => cases hQ; exact sg_q1 HS
  | 2, _, hQ => cases hQ; exact mr_ok
  | 3, _, hQ => cases hQ; exact seek_ok
  | 4, _, hQ => cases hQ; exact fillAll_ok
/-- calls whose ends are still owed -/
def mh_10s : List (Nat × Int) := [(2 ^ 33, -2), (2 ^ 30, 1), (2 ^ 30, 2), (2 ^ 30, 8), (2 ^ 1, 1)]
def mh_11s : List (Nat × Int) := [(2 ^ 64, -2), (2 ^ 52, 2), (2 ^ 52, 14), (2 ^ 52, 15)]
def mh_11p : List (Nat × Int) := [(2 ^ 61, -2), (2 ^ 62, -2)]
def mh_11l : List (Nat × Int) := [(2 ^ 59, -2), (2 ^ 60, -2)]
def ab_Hand2 (l : Launch) (G : ax_T) : Prop := ∀ (h : ax_H) (n : Nat), ab_HT h n → pb_S l G mt_X10_stone [.ref 0] h n mh_10s ∧ pb_S l G mt_X11_stone [.ref 542] h n mh_11s ∧ (∀ (a z : Int32), (z = 0 ∨ z = 1) → pb_S l G mt_X11_pour [.ref 542, .int a, .int z] h n mh_11p) ∧ ∀ a : Int32, pb_S l G mt_X11_lift [.ref 542, .int a] h n mh_11l
theorem mh_all {M : List (Nat × Int)} {κ : Nat} {i : Int} (hm : (M.any fun q => Nat.testBit q.1 κ && decide (q.2 = -2)) = true) (hi : 0 ≤ i) : ¬ ab_md M κ i = false := by
  intro e
  obtain ⟨q, hq, h1⟩ := List.any_eq_true.mp hm
  simp only [Bool.and_eq_true, decide_eq_true_eq] at h1
  have h2 : ab_md M κ i = true := by
    unfold ab_md
    refine List.any_eq_true.mpr ⟨q, hq, ?_⟩
    rw [h1.1, decide_eq_true h1.2, decide_eq_true hi]
    simp
  rw [h2] at e
  cases e
/-- from what a method does to what is told of a public call -/
theorem pb_of {l : Launch} {G : ax_T} {mi : ax_MI} {as : List Value} {h : ax_H} {n : Nat} {M : List (Nat × Int)} {Q : Option Value → ax_H → Nat → Prop} (hM : mc_M l G 40 mi as h n Q) (hQ : ∀ r h' n', Q r h' n' → (∃ y : Int32, r = some (.int y)) ∧ ab_HT h' n' ∧ pb_f M n h h') : pb_S l G mi as h n M := by
  obtain ⟨⟨r, h', n'⟩, m1, m2⟩ := hM
  obtain ⟨⟨y, q1⟩, q2, q3⟩ := hQ _ _ _ m2
  have q1' : r = some (.int y) := q1
  subst q1'
  exact ⟨y, h', n', m1, q2, q3⟩
theorem hand2_ok {l : Launch} {G : ax_T} (HS : SGN l G) : ab_Hand2 l G := by
  intro h n H
  have hW := mc_HW_of H
  refine ⟨?_, ?_, fun a z hz => ?_, fun a => ?_⟩
  · refine pb_of (mc_stone10 HS (by decide) hW) (fun r h' n' q => ?_)
    obtain ⟨e, H', hy, f, g⟩ := q
    subst e
    refine ⟨hy, mc_HT_of H' ?_, (fun k _ i hi hm => f k i (fun e => by subst e; exact mh_all (κ := ab_k 29) (by decide +kernel) hi hm) (fun e1 e2 => by subst e1; subst e2; exact absurd hm (by decide +kernel)) (fun e1 e2 => by subst e1; subst e2; exact absurd hm (by decide +kernel)) (fun e1 e2 => by subst e1; subst e2; exact absurd hm (by decide +kernel)) (fun e1 e2 => by subst e1; subst e2; exact absurd hm (by decide +kernel)))⟩
    obtain ⟨j1, j2, j3⟩ := H.2.2.1
    refine ⟨g j1, ?_, fun w hw => ?_⟩
    · rw [ab_ri_of (f 542 14 (by decide) (by decide) (by decide) (by decide) (by decide)), ab_gc_of _ (fun i _ => f 554 i (by decide) (fun q => absurd q (by decide)) (fun q => absurd q (by decide)) (fun q => absurd q (by decide)) (fun q => absurd q (by decide)))]
      exact j2
    · rw [f 28 4 (by decide) (by decide) (by decide) (by decide) (by decide)] at hw
      have hkw : ab_k w = 34 := by
        obtain ⟨fs, v, -, -, ⟨k', rfl, -, k2⟩, k3⟩ := mc_fld (k := 28) (j := 4) (ci := 7) (τ := .inr (some 17179869184)) hW rfl rfl
        have : (some (Value.ref k') : Option Value) = some (.ref w) := k3.symm.trans hw
        cases this
        have := (Nat.testBit_two_pow (n := 34) (m := ab_k w)).symm.trans (show Nat.testBit (2 ^ 34) (ab_k w) = true from k2)
        have := of_decide_eq_true this
        omega
      have hw29 : w ≠ 29 := fun e => by subst e; exact absurd hkw (by decide)
      have hw28 : w ≠ 28 := fun e => by subst e; exact absurd hkw (by decide)
      have hw1 : w ≠ 1 := fun e => by subst e; exact absurd hkw (by decide)
      rw [ab_ri_of (f 28 6 (by decide) (by decide) (by decide) (by decide) (by decide)), ab_ri_of (f 28 7 (by decide) (by decide) (by decide) (by decide) (by decide)), ab_ri_of (f w (-1) hw29 (fun e => absurd e hw28) (fun e => absurd e hw28) (fun e => absurd e hw28) (fun e => absurd e hw1))]
      exact j3 w hw
  · refine pb_of (mc_stone (by decide) hW) (fun r h' n' q => ?_)
    obtain ⟨e, H', hy, f, g⟩ := q
    subst e
    refine ⟨hy, mc_HT_of H' ?_, (fun k _ i hi hm => f k i (fun e => by subst e; exact mh_all (κ := ab_k 554) (by decide +kernel) hi hm) (fun e1 e2 => by subst e1; subst e2; exact absurd hm (by decide +kernel)) (fun e1 e2 => by subst e1; subst e2; exact absurd hm (by decide +kernel)) (fun e1 e2 => by subst e1; subst e2; exact absurd hm (by decide +kernel)))⟩
    obtain ⟨⟨j1, j2, j3⟩, j4, j5⟩ := H.2.2.1
    have r : ∀ (k : Nat) (i : Int), k ≠ 554 → k ≠ 542 → ab_rd h' k i = ab_rd h k i := fun k i a b => f k i a (fun e => absurd e b) (fun e => absurd e b) (fun e => absurd e b)
    refine ⟨⟨?_, ?_, ?_⟩, g j4, fun w hw => ?_⟩
    · rw [ab_ri_of (r 28 1 (by decide) (by decide)), ab_gc_of _ (fun i _ => r 29 i (by decide) (by decide))]; exact j1
    · rw [ab_ri_of (r 28 1 (by decide) (by decide)), ab_ri_of (r 28 2 (by decide) (by decide))]; exact j2
    · rw [ab_ri_of (r 28 1 (by decide) (by decide)), ab_ri_of (r 28 2 (by decide) (by decide))]; exact j3
    · rw [r 28 4 (by decide) (by decide)] at hw
      have hkw : ab_k w = 34 := by
        obtain ⟨fs, v, -, -, ⟨k', rfl, -, k2⟩, k3⟩ := mc_fld (k := 28) (j := 4) (ci := 7) (τ := .inr (some 17179869184)) hW rfl rfl
        have : (some (Value.ref k') : Option Value) = some (.ref w) := k3.symm.trans hw
        cases this
        have := (Nat.testBit_two_pow (n := 34) (m := ab_k w)).symm.trans (show Nat.testBit (2 ^ 34) (ab_k w) = true from k2)
        have := of_decide_eq_true this
        omega
      have hw1 : w ≠ 554 := fun e => by subst e; exact absurd hkw (by decide)
      have hw2 : w ≠ 542 := fun e => by subst e; exact absurd hkw (by decide)
      rw [ab_ri_of (r 28 6 (by decide) (by decide)), ab_ri_of (r 28 7 (by decide) (by decide)), ab_ri_of (r w (-1) hw1 hw2)]
      exact j5 w hw
  · refine pb_of (mc_pour (by decide) hW a z hz) (fun r h' n' q => ?_)
    obtain ⟨e, H', hy, f⟩ := q
    subst e
    refine ⟨hy, mc_HT_of H' (mc_J2 hW (fun k i q => f k i (fun e => ?_) (fun e => ?_)) H.2.2.1), (fun k _ i hi hm => f k i (fun e => by subst e; exact mh_all (κ := ab_k 551) (by decide +kernel) hi hm) (fun e => by subst e; exact mh_all (κ := ab_k 552) (by decide +kernel) hi hm))⟩
    · subst e; rcases q with q | q | q | q | q <;> first | (exact absurd q (by decide)) | (exact absurd q.1 (by decide))
    · subst e; rcases q with q | q | q | q | q <;> first | (exact absurd q (by decide)) | (exact absurd q.1 (by decide))
  · refine pb_of (mc_lift (by decide) hW a) (fun r h' n' q => ?_)
    obtain ⟨e, H', hy, f⟩ := q
    subst e
    refine ⟨hy, mc_HT_of H' (mc_J2 hW (fun k i q => f k i (fun e => ?_) (fun e => ?_)) H.2.2.1), (fun k _ i hi hm => f k i (fun e => by subst e; exact mh_all (κ := ab_k 549) (by decide +kernel) hi hm) (fun e => by subst e; exact mh_all (κ := ab_k 550) (by decide +kernel) hi hm))⟩
    · subst e; rcases q with q | q | q | q | q <;> first | (exact absurd q (by decide)) | (exact absurd q.1 (by decide))
    · subst e; rcases q with q | q | q | q | q <;> first | (exact absurd q (by decide)) | (exact absurd q.1 (by decide))
end
